theorem in_X2_thrown_X2 : ∀ w ∈ wsX20, w ∈ wsX2_thrown := by decide +kernel
set_option maxHeartbeats 2000000 in
set_option maxRecDepth 100000 in
theorem c_X2_thrown (l : Launch) (D : va_G) (cI cZ cJ : ClassId) (hM : Nat) (hO : Nat) (hW : Nat) (hY : Nat) (th : Int32) (a : Nat → Int32)  : Rd l D cI cZ cJ yX2_thrown wsX2_thrown 0 0 [.ref hM] [cM hM hO hW hY th a] (th) := by
  refine rd_of (by decide) rfl (Nat.le_of_ble_eq_true rfl) (fun p e s m below meth c ls hx hb hr hml hts hown hlocks hP hK hN hl => ?_)
  have hl : lv_has ls 1 [(0, .ref hM)] := hl
  refine lv_aload_n hx hb dX2_thrown_0 rfl (lv_at hl 0 rfl) ?_
  refine va_get (D := D) (cl := vwCl) (ci := 2) (v := .int th) (C := RX2) (T := TX2) (N := 16) hx hb hts in_X2_thrown_X2 hown hK hP 0 rfl rfl 0 (by decide) (hts (.fieldLink RX2 20 "WitchTrialModel" "thrown" "I") (List.mem_of_getElem? (i := 1) rfl)) (fun _ h9 => h9) rfl dX2_thrown_1 ?_
  exact rd_iret hx hb hr hlocks (by rfl) dX2_thrown_4

set_option maxHeartbeats 2000000 in
set_option maxRecDepth 100000 in
theorem c_X2_in (l : Launch) (D : va_G) (cI cZ cJ : ClassId) (v : Int32) (lo : Int32) (hi : Int32)  : Rd l D cI cZ cJ yX2_in wsX2_in 0 0 [.int v, .int lo, .int hi] [] (bI (xIn v lo hi)) := by
  refine rd_of (by decide) rfl (Nat.le_of_ble_eq_true rfl) (fun p e s m below meth c ls hx hb hr hml hts hown hlocks hP hK hN hl => ?_)
  have hl : lv_has ls 3 [(0, .int v), (1, .int lo), (2, .int hi)] := hl
  refine lv_iload_n hx hb dX2_in_0 rfl (lv_at hl 0 rfl) ?_
  refine lv_iload_n hx hb dX2_in_1 rfl (lv_at hl 1 rfl) ?_
  refine lv_icmp_lt (tgt := 14) hx hb dX2_in_2 (by decide) (fun c_1 => ?_) (fun c_1 => ?_)
  · refine lv_iconst (v := 0) hx hb dX2_in_14 (by decide) ?_
    exact rd_zret hx hb hr hlocks (by (first | rfl | (simp only [xIn, bI, c_1, eq_self, ↓reduceIte]; done) | (simp only [xIn, bI, c_1, eq_self, ↓reduceIte]; rfl) | simp [xIn, bI, c_1])) rfl dX2_in_15
  · refine lv_iload_n hx hb dX2_in_5 rfl (lv_at hl 0 rfl) ?_
    refine lv_iload_n hx hb dX2_in_6 rfl (lv_at hl 2 rfl) ?_
    refine lv_icmp_gt (tgt := 14) hx hb dX2_in_7 (by decide) (fun c_2 => ?_) (fun c_2 => ?_)
    · refine lv_iconst (v := 0) hx hb dX2_in_14 (by decide) ?_
      exact rd_zret hx hb hr hlocks (by (first | rfl | (simp only [xIn, bI, c_1, c_2, eq_self, ↓reduceIte]; done) | (simp only [xIn, bI, c_1, c_2, eq_self, ↓reduceIte]; rfl) | simp [xIn, bI, c_1, c_2])) rfl dX2_in_15
    · refine lv_iconst (v := 1) hx hb dX2_in_10 (by decide) ?_
      refine lv_goto (tgt := 15) hx hb dX2_in_11 (by decide) ?_
      exact rd_zret hx hb hr hlocks (by (first | rfl | (simp only [xIn, bI, c_1, c_2, eq_self, ↓reduceIte]; done) | (simp only [xIn, bI, c_1, c_2, eq_self, ↓reduceIte]; rfl) | simp [xIn, bI, c_1, c_2])) rfl dX2_in_15

set_option maxHeartbeats 2000000 in
set_option maxRecDepth 100000 in
theorem c_X2_has (l : Launch) (D : va_G) (cI cZ cJ : ClassId) (st : Int32) (q : Int32)  : Rd l D cI cZ cJ yX2_has wsX2_has 0 0 [.int st, .int q] [] (bI (xHas st q)) := by
  refine rd_of (by decide) rfl (Nat.le_of_ble_eq_true rfl) (fun p e s m below meth c ls hx hb hr hml hts hown hlocks hP hK hN hl => ?_)
  have hl : lv_has ls 2 [(0, .int st), (1, .int q)] := hl
  refine lv_iload_n hx hb dX2_has_0 rfl (lv_at hl 0 rfl) ?_
  refine lv_iload_n hx hb dX2_has_1 rfl (lv_at hl 1 rfl) ?_
  refine lv_ishr hx hb dX2_has_2 ?_
  refine lv_iconst (v := 1) hx hb dX2_has_3 (by decide) ?_
  refine lv_iand hx hb dX2_has_4 ?_
  refine lv_iconst (v := 1) hx hb dX2_has_5 (by decide) ?_
  refine lv_icmp_ne (tgt := 13) hx hb dX2_has_6 (by decide) (fun c_1 => ?_) (fun c_1 => ?_)
  · refine lv_iconst (v := 0) hx hb dX2_has_13 (by decide) ?_
    exact rd_zret hx hb hr hlocks (by (first | rfl | (simp only [xHas, bI, c_1, eq_self, ↓reduceIte]; done) | (simp only [xHas, bI, c_1, eq_self, ↓reduceIte]; rfl) | simp [xHas, bI, c_1])) rfl dX2_has_14
  · refine lv_iconst (v := 1) hx hb dX2_has_9 (by decide) ?_
    refine lv_goto (tgt := 14) hx hb dX2_has_10 (by decide) ?_
    exact rd_zret hx hb hr hlocks (by (first | rfl | (simp only [xHas, bI, c_1, eq_self, ↓reduceIte]; done) | (simp only [xHas, bI, c_1, eq_self, ↓reduceIte]; rfl) | (simp only [xHas, bI, eq_true c_1, eq_self, ↓reduceIte]; done) | (simp only [xHas, bI, eq_true c_1, eq_self, ↓reduceIte]; rfl) | (simp [xHas, bI, eq_true c_1]; done) | simp [xHas, bI, c_1])) rfl dX2_has_14

set_option maxHeartbeats 2000000 in
set_option maxRecDepth 100000 in
theorem c_X2_bits (l : Launch) (D : va_G) (cI cZ cJ : ClassId) (st : Int32)  : Rd l D cI cZ cJ yX2_bits wsX2_bits 0 0 [.int st] [] (xBits st 8) := by
  refine rd_of (by decide) rfl (Nat.le_of_ble_eq_true rfl) (fun p e s m below meth c ls hx hb hr hml hts hown hlocks hP hK hN hl => ?_)
  have hl : lv_has ls 3 [(0, .int st)] := hl
  refine lv_iconst (v := 0) hx hb dX2_bits_0 (by decide) ?_
  refine lv_istore_n (lv' := [(1, .int 0), (0, .int st)]) hx hb dX2_bits_1 rfl hl (by decide) rfl (fun ls hl => ?_)
  refine lv_iconst (v := 0) hx hb dX2_bits_2 (by decide) ?_
  refine lv_istore_n (lv' := [(2, .int 0), (1, .int 0), (0, .int st)]) hx hb dX2_bits_3 rfl hl (by decide) rfl (fun ls hl => ?_)
  refine loop_R (nL := 3) (h := 4) 8 (fun i => [(0, .int st), (1, .int (xBits st i)), (2, .int (nI i))]) (fun _ => True) (fun i hi hI ih_i ls hl => ?_) 0 (by omega) trivial ls ?_
  · have hl : lv_has ls 3 [(0, .int st), (1, .int (xBits st i)), (2, .int (nI i))] := hl
    refine lv_iload_n hx hb dX2_bits_4 rfl (lv_at hl 2 rfl) ?_
    refine lv_bipush (v := 8) hx hb dX2_bits_5 (by decide) ?_
    refine lv_icmp_ge (tgt := 24) hx hb dX2_bits_7 (by decide) (fun c_2 => ?_) (fun c_2 => ?_)
    · have hi9 : 8 = i := (geN hi (by omega) rfl c_2).symm
      subst hi9
      refine lv_iload_n hx hb dX2_bits_24 rfl (lv_at hl 1 rfl) ?_
      exact rd_iret hx hb hr hlocks (by rfl) dX2_bits_25
    · have hlt : i < 8 := ltN hi (by omega) rfl c_2
      refine lv_iload_n hx hb dX2_bits_10 rfl (lv_at hl 1 rfl) ?_
      refine lv_iload_n hx hb dX2_bits_11 rfl (lv_at hl 0 rfl) ?_
      refine lv_iload_n hx hb dX2_bits_12 rfl (lv_at hl 2 rfl) ?_
      refine lv_ishr hx hb dX2_bits_13 ?_
      refine lv_iconst (v := 1) hx hb dX2_bits_14 (by decide) ?_
      refine lv_iand hx hb dX2_bits_15 ?_
      refine lv_iadd hx hb dX2_bits_16 ?_
      refine lv_istore_n (lv' := [(1, .int ((xBits st i) + ((st >>> ((nI i) &&& 31)) &&& 1))), (0, .int st), (2, .int (nI i))]) hx hb dX2_bits_17 rfl hl (by decide) rfl (fun ls hl => ?_)
      refine lv_iinc (v := (nI (i + 1))) (lv' := [(2, .int (nI (i + 1))), (1, .int ((xBits st i) + ((st >>> ((nI i) &&& 31)) &&& 1))), (0, .int st)]) hx hb dX2_bits_18 hl (k := 2) rfl (nI_1 i) (by decide) rfl (fun ls hl => ?_)
      refine lv_goto (tgt := 4) hx hb dX2_bits_21 (by decide) ?_
      have eb_0 : (xBits st (i + 1)) = ((xBits st i) + ((st >>> ((nI i) &&& 31)) &&& 1)) := by rfl
      exact ih_i (by omega) trivial ls (by show lv_has ls 3 [(0, .int st), (1, .int (xBits st (i + 1))), (2, .int (nI (i + 1)))]; rw [eb_0]; exact lv_sub hl [2, 1, 0] rfl)
  · show lv_has ls 3 [(0, .int st), (1, .int (xBits st 0)), (2, .int (nI 0))]
    have en_0 : (xBits st 0) = 0 := by rfl
    rw [en_0]
    have en_1 : (nI 0) = 0 := by exact nI_0
    rw [en_1]
    exact lv_sub hl [2, 1, 0] rfl

theorem in_X2_isPlayer_X2 : ∀ w ∈ wsX20, w ∈ wsX2_isPlayer := by decide +kernel
set_option maxHeartbeats 2000000 in
set_option maxRecDepth 100000 in
theorem c_X2_isPlayer (l : Launch) (D : va_G) (cI cZ cJ : ClassId) (hM : Nat) (hO : Nat) (hW : Nat) (hY : Nat) (th : Int32) (a : Nat → Int32) (q : Int32)  : Rd l D cI cZ cJ yX2_isPlayer wsX2_isPlayer 1 22 [.ref hM, .int q] [cM hM hO hW hY th a] (bI (xPl a q)) := by
  refine rd_of (by decide) rfl (Nat.le_of_ble_eq_true rfl) (fun p e s m below meth c ls hx hb hr hml hts hown hlocks hP hK hN hl => ?_)
  have hl : lv_has ls 2 [(0, .ref hM), (1, .int q)] := hl
  refine lv_iload_n hx hb dX2_isPlayer_0 rfl (lv_at hl 1 rfl) ?_
  refine lv_iconst (v := 0) hx hb dX2_isPlayer_1 (by decide) ?_
  refine lv_aload_n hx hb dX2_isPlayer_2 rfl (lv_at hl 0 rfl) ?_
  refine va_get (D := D) (cl := vwCl) (ci := 2) (v := .int (a 2)) (C := RX2) (T := TX2) (N := 16) hx hb hts in_X2_isPlayer_X2 hown hK hP 0 rfl rfl 2 (by decide) (hts (.fieldLink RX2 24 "WitchTrialModel" "players" "I") (List.mem_of_getElem? (i := 1) rfl)) (fun _ h9 => h9) rfl dX2_isPlayer_3 ?_
  refine lv_iconst (v := 1) hx hb dX2_isPlayer_6 (by decide) ?_
  refine lv_isub hx hb dX2_isPlayer_7 ?_
  refine rd_S (As := [.int q, .int 0, .int ((a 2) - 1)]) (rest := []) ⟨hx, hb, hml, hown, hts⟩ (c_X2_in l D cI cZ cJ q 0 ((a 2) - 1)) (va_cwS 3 hts gX2_isPlayer_X2_in rfl rfl rfl (by decide +kernel) ⟨Nat.le_of_ble_eq_true rfl, Nat.le_of_ble_eq_true rfl⟩) (hP.sub (ws' := []) [] rfl) hK hN rfl hl.1 rfl (Nat.le_of_ble_eq_true rfl) dX2_isPlayer_8 ⟨Nat.le_of_ble_eq_true rfl, Nat.le_of_ble_eq_true rfl⟩ ?_
  exact rd_zret hx hb hr hlocks (by rfl) (bI_nar _) dX2_isPlayer_11

theorem in_X2_isViewer_X2 : ∀ w ∈ wsX20, w ∈ wsX2_isViewer := by decide +kernel
set_option maxHeartbeats 2000000 in
set_option maxRecDepth 100000 in
theorem c_X2_isViewer (l : Launch) (D : va_G) (cI cZ cJ : ClassId) (hM : Nat) (hO : Nat) (hW : Nat) (hY : Nat) (th : Int32) (a : Nat → Int32) (q : Int32)  : Rd l D cI cZ cJ yX2_isViewer wsX2_isViewer 2 43 [.ref hM, .int q] [cM hM hO hW hY th a] (bI (xVw a q)) := by
  refine rd_of (by decide) rfl (Nat.le_of_ble_eq_true rfl) (fun p e s m below meth c ls hx hb hr hml hts hown hlocks hP hK hN hl => ?_)
  have hl : lv_has ls 2 [(0, .ref hM), (1, .int q)] := hl
  refine lv_iload_n hx hb dX2_isViewer_0 rfl (lv_at hl 1 rfl) ?_
  refine lv_iconst (v := (-1)) hx hb dX2_isViewer_1 (by decide) ?_
  refine lv_icmp_eq (tgt := 13) hx hb dX2_isViewer_2 (by decide) (fun c_1 => ?_) (fun c_1 => ?_)
  · refine lv_iconst (v := 1) hx hb dX2_isViewer_13 (by decide) ?_
    refine lv_goto (tgt := 18) hx hb dX2_isViewer_14 (by decide) ?_
    exact rd_zret hx hb hr hlocks (by (first | rfl | (simp only [xVw, bI, eq_true c_1, eq_self, ↓reduceIte]; done) | (simp only [xVw, bI, eq_true c_1, eq_self, ↓reduceIte]; rfl) | simp [xVw, bI, eq_true c_1])) rfl dX2_isViewer_18
  · refine lv_aload_n hx hb dX2_isViewer_5 rfl (lv_at hl 0 rfl) ?_
    refine lv_iload_n hx hb dX2_isViewer_6 rfl (lv_at hl 1 rfl) ?_
    refine rd_V (b := hM) (As := [.int q]) (rest := []) ⟨hx, hb, hml, hown, hts⟩ (c_X2_isPlayer l D cI cZ cJ hM hO hW hY th a q) (cwV 1 hts gX2_isViewer_X2_isPlayer rfl rfl rfl (by decide +kernel) ⟨Nat.le_of_ble_eq_true rfl, Nat.le_of_ble_eq_true rfl⟩) (hP.sub (ws' := [cM hM hO hW hY th a]) [0] rfl) hK hN (va_recv hK hP (ci := 2) (q0 := 0) rfl rfl) rfl hl.1 rfl (Nat.le_of_ble_eq_true rfl) dX2_isViewer_7 ⟨Nat.le_of_ble_eq_true rfl, Nat.le_of_ble_eq_true rfl⟩ ?_
    refine lv_if_eq (tgt := 17) hx hb dX2_isViewer_10 (by decide) (fun c_2 => ?_) (fun c_2 => ?_)
    · have c_2 : (xPl a q) = false := bI_0 c_2
      refine lv_iconst (v := 0) hx hb dX2_isViewer_17 (by decide) ?_
      exact rd_zret hx hb hr hlocks (by (first | rfl | (simp only [xVw, bI, c_1, c_2, eq_self, ↓reduceIte]; done) | (simp only [xVw, bI, c_1, c_2, eq_self, ↓reduceIte]; rfl) | simp [xVw, bI, c_1, c_2])) rfl dX2_isViewer_18
    · have c_2 : (xPl a q) = true := bI_1 c_2
      refine lv_iconst (v := 1) hx hb dX2_isViewer_13 (by decide) ?_
      refine lv_goto (tgt := 18) hx hb dX2_isViewer_14 (by decide) ?_
      exact rd_zret hx hb hr hlocks (by (first | rfl | (simp only [xVw, bI, c_1, c_2, eq_self, ↓reduceIte]; done) | (simp only [xVw, bI, c_1, c_2, eq_self, ↓reduceIte]; rfl) | simp [xVw, bI, c_1, c_2])) rfl dX2_isViewer_18

set_option maxHeartbeats 2000000 in
set_option maxRecDepth 100000 in
theorem c_X2_isWorld (l : Launch) (D : va_G) (cI cZ cJ : ClassId) (pl : Int32) (ct : Int32) (st : Int32) (se : Int32) (gu : Int32)  : Rd l D cI cZ cJ yX2_isWorld wsX2_isWorld 1 22 [.int pl, .int ct, .int st, .int se, .int gu] [] (bI (xWorld pl ct st se gu)) := by
  refine rd_of (by decide) rfl (Nat.le_of_ble_eq_true rfl) (fun p e s m below meth c ls hx hb hr hml hts hown hlocks hP hK hN hl => ?_)
  have hl : lv_has ls 6 [(0, .int pl), (1, .int ct), (2, .int st), (3, .int se), (4, .int gu)] := hl
  refine lv_iload_n hx hb dX2_isWorld_0 rfl (lv_at hl 2 rfl) ?_
  refine lv_iconst (v := 0) hx hb dX2_isWorld_1 (by decide) ?_
  refine lv_iconst (v := 1) hx hb dX2_isWorld_2 (by decide) ?_
  refine lv_iload_n hx hb dX2_isWorld_3 rfl (lv_at hl 0 rfl) ?_
  refine lv_ishl hx hb dX2_isWorld_4 ?_
  refine lv_iconst (v := 1) hx hb dX2_isWorld_5 (by decide) ?_
  refine lv_isub hx hb dX2_isWorld_6 ?_
  refine rd_S (As := [.int st, .int 0, .int (((1 : Int32) <<< (pl &&& 31)) - 1)]) (rest := []) ⟨hx, hb, hml, hown, hts⟩ (c_X2_in l D cI cZ cJ st 0 (((1 : Int32) <<< (pl &&& 31)) - 1)) (va_cwS 3 hts gX2_isWorld_X2_in rfl rfl rfl (by decide +kernel) ⟨Nat.le_of_ble_eq_true rfl, Nat.le_of_ble_eq_true rfl⟩) (hP.sub (ws' := []) [] rfl) hK hN rfl hl.1 rfl (Nat.le_of_ble_eq_true rfl) dX2_isWorld_7 ⟨Nat.le_of_ble_eq_true rfl, Nat.le_of_ble_eq_true rfl⟩ ?_
  refine lv_if_eq (tgt := 48) hx hb dX2_isWorld_10 (by decide) (fun c_1 => ?_) (fun c_1 => ?_)
  · have c_1 : (xIn st 0 (((1 : Int32) <<< (pl &&& 31)) - 1)) = false := bI_0 c_1
    refine lv_iconst (v := 0) hx hb dX2_isWorld_48 (by decide) ?_
    refine lv_istore (lv' := [(5, .int 0), (0, .int pl), (1, .int ct), (2, .int st), (3, .int se), (4, .int gu)]) hx hb dX2_isWorld_49 hl (by decide) rfl (fun ls hl => ?_)
    refine lv_iload hx hb dX2_isWorld_51 (lv_at hl 0 rfl) ?_
    refine lv_if_eq (tgt := 83) hx hb dX2_isWorld_53 (by decide) (fun c_2 => ?_) (fun c_2 => ?_)
    · refine lv_iconst (v := 0) hx hb dX2_isWorld_83 (by decide) ?_
      exact rd_zret hx hb hr hlocks (by (first | rfl | (simp only [xWorld, bI, c_1, eq_self, ↓reduceIte]; done) | (simp only [xWorld, bI, c_1, eq_self, ↓reduceIte]; rfl) | simp [xWorld, bI, c_1])) rfl dX2_isWorld_84
    · exact absurd c_2 (by decide)
  · have c_1 : (xIn st 0 (((1 : Int32) <<< (pl &&& 31)) - 1)) = true := bI_1 c_1
    refine lv_iload_n hx hb dX2_isWorld_13 rfl (lv_at hl 2 rfl) ?_
    refine rd_S (As := [.int st]) (rest := []) ⟨hx, hb, hml, hown, hts⟩ (c_X2_bits l D cI cZ cJ st) (va_cwS 1 hts gX2_isWorld_X2_bits rfl rfl rfl (by decide +kernel) ⟨Nat.le_of_ble_eq_true rfl, Nat.le_of_ble_eq_true rfl⟩) (hP.sub (ws' := []) [] rfl) hK hN rfl hl.1 rfl (Nat.le_of_ble_eq_true rfl) dX2_isWorld_14 ⟨Nat.le_of_ble_eq_true rfl, Nat.le_of_ble_eq_true rfl⟩ ?_
    refine lv_iload_n hx hb dX2_isWorld_17 rfl (lv_at hl 1 rfl) ?_
    refine lv_icmp_ne (tgt := 48) hx hb dX2_isWorld_18 (by decide) (fun c_3 => ?_) (fun c_3 => ?_)
    · refine lv_iconst (v := 0) hx hb dX2_isWorld_48 (by decide) ?_
      refine lv_istore (lv' := [(5, .int 0), (0, .int pl), (1, .int ct), (2, .int st), (3, .int se), (4, .int gu)]) hx hb dX2_isWorld_49 hl (by decide) rfl (fun ls hl => ?_)
      refine lv_iload hx hb dX2_isWorld_51 (lv_at hl 0 rfl) ?_
      refine lv_if_eq (tgt := 83) hx hb dX2_isWorld_53 (by decide) (fun c_4 => ?_) (fun c_4 => ?_)
      · refine lv_iconst (v := 0) hx hb dX2_isWorld_83 (by decide) ?_
        exact rd_zret hx hb hr hlocks (by (first | rfl | (simp only [xWorld, bI, c_1, c_3, eq_self, ↓reduceIte]; done) | (simp only [xWorld, bI, c_1, c_3, eq_self, ↓reduceIte]; rfl) | simp [xWorld, bI, c_1, c_3])) rfl dX2_isWorld_84
      · exact absurd c_4 (by decide)
    · refine lv_iload_n hx hb dX2_isWorld_21 rfl (lv_at hl 3 rfl) ?_
      refine lv_iconst (v := 0) hx hb dX2_isWorld_22 (by decide) ?_
      refine lv_iload_n hx hb dX2_isWorld_23 rfl (lv_at hl 0 rfl) ?_
      refine lv_iconst (v := 1) hx hb dX2_isWorld_24 (by decide) ?_
      refine lv_isub hx hb dX2_isWorld_25 ?_
      refine rd_S (As := [.int se, .int 0, .int (pl - 1)]) (rest := []) ⟨hx, hb, hml, hown, hts⟩ (c_X2_in l D cI cZ cJ se 0 (pl - 1)) (va_cwS 3 hts gX2_isWorld_X2_in rfl rfl rfl (by decide +kernel) ⟨Nat.le_of_ble_eq_true rfl, Nat.le_of_ble_eq_true rfl⟩) (hP.sub (ws' := []) [] rfl) hK hN rfl hl.1 rfl (Nat.le_of_ble_eq_true rfl) dX2_isWorld_26 ⟨Nat.le_of_ble_eq_true rfl, Nat.le_of_ble_eq_true rfl⟩ ?_
      refine lv_if_eq (tgt := 48) hx hb dX2_isWorld_29 (by decide) (fun c_5 => ?_) (fun c_5 => ?_)
      · have c_5 : (xIn se 0 (pl - 1)) = false := bI_0 c_5
        refine lv_iconst (v := 0) hx hb dX2_isWorld_48 (by decide) ?_
        refine lv_istore (lv' := [(5, .int 0), (0, .int pl), (1, .int ct), (2, .int st), (3, .int se), (4, .int gu)]) hx hb dX2_isWorld_49 hl (by decide) rfl (fun ls hl => ?_)
        refine lv_iload hx hb dX2_isWorld_51 (lv_at hl 0 rfl) ?_
        refine lv_if_eq (tgt := 83) hx hb dX2_isWorld_53 (by decide) (fun c_6 => ?_) (fun c_6 => ?_)
        · refine lv_iconst (v := 0) hx hb dX2_isWorld_83 (by decide) ?_
          exact rd_zret hx hb hr hlocks (by (first | rfl | (simp only [xWorld, bI, c_1, c_3, c_5, eq_self, ↓reduceIte]; done) | (simp only [xWorld, bI, c_1, c_3, c_5, eq_self, ↓reduceIte]; rfl) | (simp only [xWorld, bI, c_1, eq_true c_3, c_5, eq_self, ↓reduceIte]; done) | (simp only [xWorld, bI, c_1, eq_true c_3, c_5, eq_self, ↓reduceIte]; rfl) | (simp [xWorld, bI, c_1, eq_true c_3, c_5]; done) | simp [xWorld, bI, c_1, c_3, c_5])) rfl dX2_isWorld_84
        · exact absurd c_6 (by decide)
      · have c_5 : (xIn se 0 (pl - 1)) = true := bI_1 c_5
        refine lv_iload hx hb dX2_isWorld_32 (lv_at hl 4 rfl) ?_
        refine lv_iconst (v := 0) hx hb dX2_isWorld_34 (by decide) ?_
        refine lv_iload_n hx hb dX2_isWorld_35 rfl (lv_at hl 0 rfl) ?_
        refine lv_iconst (v := 1) hx hb dX2_isWorld_36 (by decide) ?_
        refine lv_isub hx hb dX2_isWorld_37 ?_
        refine rd_S (As := [.int gu, .int 0, .int (pl - 1)]) (rest := []) ⟨hx, hb, hml, hown, hts⟩ (c_X2_in l D cI cZ cJ gu 0 (pl - 1)) (va_cwS 3 hts gX2_isWorld_X2_in rfl rfl rfl (by decide +kernel) ⟨Nat.le_of_ble_eq_true rfl, Nat.le_of_ble_eq_true rfl⟩) (hP.sub (ws' := []) [] rfl) hK hN rfl hl.1 rfl (Nat.le_of_ble_eq_true rfl) dX2_isWorld_38 ⟨Nat.le_of_ble_eq_true rfl, Nat.le_of_ble_eq_true rfl⟩ ?_
        refine lv_if_eq (tgt := 48) hx hb dX2_isWorld_41 (by decide) (fun c_7 => ?_) (fun c_7 => ?_)
        · have c_7 : (xIn gu 0 (pl - 1)) = false := bI_0 c_7
          refine lv_iconst (v := 0) hx hb dX2_isWorld_48 (by decide) ?_
          refine lv_istore (lv' := [(5, .int 0), (0, .int pl), (1, .int ct), (2, .int st), (3, .int se), (4, .int gu)]) hx hb dX2_isWorld_49 hl (by decide) rfl (fun ls hl => ?_)
          refine lv_iload hx hb dX2_isWorld_51 (lv_at hl 0 rfl) ?_
          refine lv_if_eq (tgt := 83) hx hb dX2_isWorld_53 (by decide) (fun c_8 => ?_) (fun c_8 => ?_)
          · refine lv_iconst (v := 0) hx hb dX2_isWorld_83 (by decide) ?_
            exact rd_zret hx hb hr hlocks (by (first | rfl | (simp only [xWorld, bI, c_1, c_3, c_5, c_7, eq_self, ↓reduceIte]; done) | (simp only [xWorld, bI, c_1, c_3, c_5, c_7, eq_self, ↓reduceIte]; rfl) | (simp only [xWorld, bI, c_1, eq_true c_3, c_5, c_7, eq_self, ↓reduceIte]; done) | (simp only [xWorld, bI, c_1, eq_true c_3, c_5, c_7, eq_self, ↓reduceIte]; rfl) | (simp [xWorld, bI, c_1, eq_true c_3, c_5, c_7]; done) | simp [xWorld, bI, c_1, c_3, c_5, c_7])) rfl dX2_isWorld_84
          · exact absurd c_8 (by decide)
        · have c_7 : (xIn gu 0 (pl - 1)) = true := bI_1 c_7
          refine lv_iconst (v := 1) hx hb dX2_isWorld_44 (by decide) ?_
          refine lv_goto (tgt := 49) hx hb dX2_isWorld_45 (by decide) ?_
          refine lv_istore (lv' := [(5, .int 1), (0, .int pl), (1, .int ct), (2, .int st), (3, .int se), (4, .int gu)]) hx hb dX2_isWorld_49 hl (by decide) rfl (fun ls hl => ?_)
          refine lv_iload hx hb dX2_isWorld_51 (lv_at hl 0 rfl) ?_
          refine lv_if_eq (tgt := 83) hx hb dX2_isWorld_53 (by decide) (fun c_9 => ?_) (fun c_9 => ?_)
          · exact absurd c_9 (by decide)
          · refine lv_iload_n hx hb dX2_isWorld_56 rfl (lv_at hl 4 rfl) ?_
            refine lv_iload hx hb dX2_isWorld_57 (lv_at hl 5 rfl) ?_
            refine lv_icmp_eq (tgt := 83) hx hb dX2_isWorld_59 (by decide) (fun c_10 => ?_) (fun c_10 => ?_)
            · refine lv_iconst (v := 0) hx hb dX2_isWorld_83 (by decide) ?_
              exact rd_zret hx hb hr hlocks (by (first | rfl | (simp only [xWorld, bI, c_1, c_3, c_5, c_7, eq_true c_10, eq_self, ↓reduceIte]; done) | (simp only [xWorld, bI, c_1, c_3, c_5, c_7, eq_true c_10, eq_self, ↓reduceIte]; rfl) | (simp only [xWorld, bI, c_1, eq_true c_3, c_5, c_7, eq_true c_10, eq_self, ↓reduceIte]; done) | (simp only [xWorld, bI, c_1, eq_true c_3, c_5, c_7, eq_true c_10, eq_self, ↓reduceIte]; rfl) | (simp [xWorld, bI, c_1, eq_true c_3, c_5, c_7, eq_true c_10]; done) | simp [xWorld, bI, c_1, c_3, c_5, c_7, eq_true c_10])) rfl dX2_isWorld_84
            · refine lv_iload_n hx hb dX2_isWorld_62 rfl (lv_at hl 3 rfl) ?_
              refine lv_iload_n hx hb dX2_isWorld_63 rfl (lv_at hl 4 rfl) ?_
              refine rd_S (As := [.int st, .int se]) (rest := []) ⟨hx, hb, hml, hown, hts⟩ (c_X2_has l D cI cZ cJ st se) (va_cwS 2 hts gX2_isWorld_X2_has rfl rfl rfl (by decide +kernel) ⟨Nat.le_of_ble_eq_true rfl, Nat.le_of_ble_eq_true rfl⟩) (hP.sub (ws' := []) [] rfl) hK hN rfl hl.1 rfl (Nat.le_of_ble_eq_true rfl) dX2_isWorld_64 ⟨Nat.le_of_ble_eq_true rfl, Nat.le_of_ble_eq_true rfl⟩ ?_
              refine lv_if_ne (tgt := 83) hx hb dX2_isWorld_67 (by decide) (fun c_11 => ?_) (fun c_11 => ?_)
              · have c_11 : (xHas st se) = true := bI_1 c_11
                refine lv_iconst (v := 0) hx hb dX2_isWorld_83 (by decide) ?_
                exact rd_zret hx hb hr hlocks (by (first | rfl | (simp only [xWorld, bI, c_1, c_3, c_5, c_7, c_10, c_11, eq_self, ↓reduceIte]; done) | (simp only [xWorld, bI, c_1, c_3, c_5, c_7, c_10, c_11, eq_self, ↓reduceIte]; rfl) | (simp only [xWorld, bI, c_1, eq_true c_3, c_5, c_7, c_10, c_11, eq_self, ↓reduceIte]; done) | (simp only [xWorld, bI, c_1, eq_true c_3, c_5, c_7, c_10, c_11, eq_self, ↓reduceIte]; rfl) | (simp [xWorld, bI, c_1, eq_true c_3, c_5, c_7, c_10, c_11]; done) | simp [xWorld, bI, c_1, c_3, c_5, c_7, c_10, c_11])) rfl dX2_isWorld_84
              · have c_11 : (xHas st se) = false := bI_0 c_11
                refine lv_iload_n hx hb dX2_isWorld_70 rfl (lv_at hl 3 rfl) ?_
                refine lv_iload hx hb dX2_isWorld_71 (lv_at hl 5 rfl) ?_
                refine rd_S (As := [.int st, .int gu]) (rest := []) ⟨hx, hb, hml, hown, hts⟩ (c_X2_has l D cI cZ cJ st gu) (va_cwS 2 hts gX2_isWorld_X2_has rfl rfl rfl (by decide +kernel) ⟨Nat.le_of_ble_eq_true rfl, Nat.le_of_ble_eq_true rfl⟩) (hP.sub (ws' := []) [] rfl) hK hN rfl hl.1 rfl (Nat.le_of_ble_eq_true rfl) dX2_isWorld_73 ⟨Nat.le_of_ble_eq_true rfl, Nat.le_of_ble_eq_true rfl⟩ ?_
                refine lv_if_ne (tgt := 83) hx hb dX2_isWorld_76 (by decide) (fun c_12 => ?_) (fun c_12 => ?_)
                · have c_12 : (xHas st gu) = true := bI_1 c_12
                  refine lv_iconst (v := 0) hx hb dX2_isWorld_83 (by decide) ?_
                  exact rd_zret hx hb hr hlocks (by (first | rfl | (simp only [xWorld, bI, c_1, c_3, c_5, c_7, c_10, c_11, c_12, eq_self, ↓reduceIte]; done) | (simp only [xWorld, bI, c_1, c_3, c_5, c_7, c_10, c_11, c_12, eq_self, ↓reduceIte]; rfl) | (simp only [xWorld, bI, c_1, eq_true c_3, c_5, c_7, c_10, c_11, c_12, eq_self, ↓reduceIte]; done) | (simp only [xWorld, bI, c_1, eq_true c_3, c_5, c_7, c_10, c_11, c_12, eq_self, ↓reduceIte]; rfl) | (simp [xWorld, bI, c_1, eq_true c_3, c_5, c_7, c_10, c_11, c_12]; done) | simp [xWorld, bI, c_1, c_3, c_5, c_7, c_10, c_11, c_12])) rfl dX2_isWorld_84
                · have c_12 : (xHas st gu) = false := bI_0 c_12
                  refine lv_iconst (v := 1) hx hb dX2_isWorld_79 (by decide) ?_
                  refine lv_goto (tgt := 84) hx hb dX2_isWorld_80 (by decide) ?_
                  exact rd_zret hx hb hr hlocks (by (first | rfl | (simp only [xWorld, bI, c_1, c_3, c_5, c_7, c_10, c_11, c_12, eq_self, ↓reduceIte]; done) | (simp only [xWorld, bI, c_1, c_3, c_5, c_7, c_10, c_11, c_12, eq_self, ↓reduceIte]; rfl) | (simp only [xWorld, bI, c_1, eq_true c_3, c_5, c_7, c_10, c_11, c_12, eq_self, ↓reduceIte]; done) | (simp only [xWorld, bI, c_1, eq_true c_3, c_5, c_7, c_10, c_11, c_12, eq_self, ↓reduceIte]; rfl) | (simp [xWorld, bI, c_1, eq_true c_3, c_5, c_7, c_10, c_11, c_12]; done) | simp [xWorld, bI, c_1, c_3, c_5, c_7, c_10, c_11, c_12])) rfl dX2_isWorld_84

set_option maxHeartbeats 2000000 in
set_option maxRecDepth 100000 in
theorem c_X2_roleIn (l : Launch) (D : va_G) (cI cZ cJ : ClassId) (wd : Int32) (q : Int32)  : Rd l D cI cZ cJ yX2_roleIn wsX2_roleIn 1 21 [.int wd, .int q] [] (xRole wd q) := by
  refine rd_of (by decide) rfl (Nat.le_of_ble_eq_true rfl) (fun p e s m below meth c ls hx hb hr hml hts hown hlocks hP hK hN hl => ?_)
  have hl : lv_has ls 2 [(0, .int wd), (1, .int q)] := hl
  refine lv_iload_n hx hb dX2_roleIn_0 rfl (lv_at hl 0 rfl) ?_
  refine lv_bipush (v := 64) hx hb dX2_roleIn_1 (by decide) ?_
  refine lv_idiv hx hb dX2_roleIn_3 (by decide) ?_
  refine lv_iload_n hx hb dX2_roleIn_4 rfl (lv_at hl 1 rfl) ?_
  refine rd_S (As := [.int (wd / 64), .int q]) (rest := []) ⟨hx, hb, hml, hown, hts⟩ (c_X2_has l D cI cZ cJ (wd / 64) q) (va_cwS 2 hts gX2_roleIn_X2_has rfl rfl rfl (by decide +kernel) ⟨Nat.le_of_ble_eq_true rfl, Nat.le_of_ble_eq_true rfl⟩) (hP.sub (ws' := []) [] rfl) hK hN rfl hl.1 rfl (Nat.le_of_ble_eq_true rfl) dX2_roleIn_5 ⟨Nat.le_of_ble_eq_true rfl, Nat.le_of_ble_eq_true rfl⟩ ?_
  refine lv_if_eq (tgt := 15) hx hb dX2_roleIn_8 (by decide) (fun c_1 => ?_) (fun c_1 => ?_)
  · have c_1 : (xHas (wd / 64) q) = false := bI_0 c_1
    refine lv_iload_n hx hb dX2_roleIn_15 rfl (lv_at hl 0 rfl) ?_
    refine lv_bipush (v := 8) hx hb dX2_roleIn_16 (by decide) ?_
    refine lv_idiv hx hb dX2_roleIn_18 (by decide) ?_
    refine lv_bipush (v := 8) hx hb dX2_roleIn_19 (by decide) ?_
    refine lv_irem hx hb dX2_roleIn_21 (by decide) ?_
    refine lv_iload_n hx hb dX2_roleIn_22 rfl (lv_at hl 1 rfl) ?_
    refine lv_icmp_ne (tgt := 30) hx hb dX2_roleIn_23 (by decide) (fun c_2 => ?_) (fun c_2 => ?_)
    · refine lv_iload_n hx hb dX2_roleIn_30 rfl (lv_at hl 0 rfl) ?_
      refine lv_bipush (v := 8) hx hb dX2_roleIn_31 (by decide) ?_
      refine lv_irem hx hb dX2_roleIn_33 (by decide) ?_
      refine lv_iload_n hx hb dX2_roleIn_34 rfl (lv_at hl 1 rfl) ?_
      refine lv_icmp_ne (tgt := 42) hx hb dX2_roleIn_35 (by decide) (fun c_3 => ?_) (fun c_3 => ?_)
      · refine lv_iconst (v := 0) hx hb dX2_roleIn_42 (by decide) ?_
        exact rd_iret hx hb hr hlocks (by (first | rfl | (simp only [xRole, bI, c_1, c_2, c_3, eq_self, ↓reduceIte]; done) | (simp only [xRole, bI, c_1, c_2, c_3, eq_self, ↓reduceIte]; rfl) | simp [xRole, bI, c_1, c_2, c_3])) dX2_roleIn_43
      · refine lv_iconst (v := 3) hx hb dX2_roleIn_38 (by decide) ?_
        refine lv_goto (tgt := 43) hx hb dX2_roleIn_39 (by decide) ?_
        exact rd_iret hx hb hr hlocks (by (first | rfl | (simp only [xRole, bI, c_1, c_2, c_3, eq_self, ↓reduceIte]; done) | (simp only [xRole, bI, c_1, c_2, c_3, eq_self, ↓reduceIte]; rfl) | (simp only [xRole, bI, c_1, c_2, eq_true c_3, eq_self, ↓reduceIte]; done) | (simp only [xRole, bI, c_1, c_2, eq_true c_3, eq_self, ↓reduceIte]; rfl) | (simp [xRole, bI, c_1, c_2, eq_true c_3]; done) | simp [xRole, bI, c_1, c_2, c_3])) dX2_roleIn_43
    · refine lv_iconst (v := 2) hx hb dX2_roleIn_26 (by decide) ?_
      refine lv_goto (tgt := 43) hx hb dX2_roleIn_27 (by decide) ?_
      exact rd_iret hx hb hr hlocks (by (first | rfl | (simp only [xRole, bI, c_1, c_2, eq_self, ↓reduceIte]; done) | (simp only [xRole, bI, c_1, c_2, eq_self, ↓reduceIte]; rfl) | (simp only [xRole, bI, c_1, eq_true c_2, eq_self, ↓reduceIte]; done) | (simp only [xRole, bI, c_1, eq_true c_2, eq_self, ↓reduceIte]; rfl) | (simp [xRole, bI, c_1, eq_true c_2]; done) | simp [xRole, bI, c_1, c_2])) dX2_roleIn_43
  · have c_1 : (xHas (wd / 64) q) = true := bI_1 c_1
    refine lv_iconst (v := 1) hx hb dX2_roleIn_11 (by decide) ?_
    refine lv_goto (tgt := 43) hx hb dX2_roleIn_12 (by decide) ?_
    exact rd_iret hx hb hr hlocks (by (first | rfl | (simp only [xRole, bI, c_1, eq_self, ↓reduceIte]; done) | (simp only [xRole, bI, c_1, eq_self, ↓reduceIte]; rfl) | simp [xRole, bI, c_1])) dX2_roleIn_43

theorem in_X2_truth_X2 : ∀ w ∈ wsX20, w ∈ wsX2_truth := by decide +kernel
set_option maxHeartbeats 2000000 in
set_option maxRecDepth 100000 in
theorem c_X2_truth (l : Launch) (D : va_G) (cI cZ cJ : ClassId) (hM : Nat) (hO : Nat) (hW : Nat) (hY : Nat) (th : Int32) (a : Nat → Int32)  : Rd l D cI cZ cJ yX2_truth wsX2_truth 0 0 [.ref hM] [cM hM hO hW hY th a] (xTr a) := by
  refine rd_of (by decide) rfl (Nat.le_of_ble_eq_true rfl) (fun p e s m below meth c ls hx hb hr hml hts hown hlocks hP hK hN hl => ?_)
  have hl : lv_has ls 1 [(0, .ref hM)] := hl
  refine lv_bipush (v := 64) hx hb dX2_truth_0 (by decide) ?_
  refine lv_aload_n hx hb dX2_truth_2 rfl (lv_at hl 0 rfl) ?_
  refine va_get (D := D) (cl := vwCl) (ci := 2) (v := .int (a 3)) (C := RX2) (T := TX2) (N := 16) hx hb hts in_X2_truth_X2 hown hK hP 0 rfl rfl 3 (by decide) (hts (.fieldLink RX2 43 "WitchTrialModel" "witches" "I") (List.mem_of_getElem? (i := 1) rfl)) (fun _ h9 => h9) rfl dX2_truth_3 ?_
  refine lv_imul hx hb dX2_truth_6 ?_
  refine lv_bipush (v := 8) hx hb dX2_truth_7 (by decide) ?_
  refine lv_aload_n hx hb dX2_truth_9 rfl (lv_at hl 0 rfl) ?_
  refine va_get (D := D) (cl := vwCl) (ci := 2) (v := .int (a 4)) (C := RX2) (T := TX2) (N := 16) hx hb hts in_X2_truth_X2 hown hK hP 0 rfl rfl 4 (by decide) (hts (.fieldLink RX2 46 "WitchTrialModel" "seer" "I") (List.mem_of_getElem? (i := 2) rfl)) (fun _ h9 => h9) rfl dX2_truth_10 ?_
  refine lv_imul hx hb dX2_truth_13 ?_
  refine lv_iadd hx hb dX2_truth_14 ?_
  refine lv_aload_n hx hb dX2_truth_15 rfl (lv_at hl 0 rfl) ?_
  refine va_get (D := D) (cl := vwCl) (ci := 2) (v := .int (a 5)) (C := RX2) (T := TX2) (N := 16) hx hb hts in_X2_truth_X2 hown hK hP 0 rfl rfl 5 (by decide) (hts (.fieldLink RX2 49 "WitchTrialModel" "guard" "I") (List.mem_of_getElem? (i := 3) rfl)) (fun _ h9 => h9) rfl dX2_truth_16 ?_
  refine lv_iadd hx hb dX2_truth_19 ?_
  exact rd_iret hx hb hr hlocks (by rfl) dX2_truth_20

theorem in_X2_manyOpen_X2 : ∀ w ∈ wsX20, w ∈ wsX2_manyOpen := by decide +kernel
set_option maxHeartbeats 2000000 in
set_option maxRecDepth 100000 in
theorem c_X2_manyOpen (l : Launch) (D : va_G) (cI cZ cJ : ClassId) (hM : Nat) (hO : Nat) (hW : Nat) (hY : Nat) (th : Int32) (a : Nat → Int32) (o : Nat → Bool)  : Rd l D cI cZ cJ yX2_manyOpen wsX2_manyOpen 0 0 [.ref hM] [cM hM hO hW hY th a, cA cZ hO 16384 (fun w => bI (o w))] (xCnt o 16384) := by
  refine rd_of (by decide) rfl (Nat.le_of_ble_eq_true rfl) (fun p e s m below meth c ls hx hb hr hml hts hown hlocks hP hK hN hl => ?_)
  have hl : lv_has ls 3 [(0, .ref hM)] := hl
  refine lv_iconst (v := 0) hx hb dX2_manyOpen_0 (by decide) ?_
  refine lv_istore_n (lv' := [(1, .int 0), (0, .ref hM)]) hx hb dX2_manyOpen_1 rfl hl (by decide) rfl (fun ls hl => ?_)
  refine lv_iconst (v := 0) hx hb dX2_manyOpen_2 (by decide) ?_
  refine lv_istore_n (lv' := [(2, .int 0), (1, .int 0), (0, .ref hM)]) hx hb dX2_manyOpen_3 rfl hl (by decide) rfl (fun ls hl => ?_)
  refine loop_R (nL := 3) (h := 4) 16384 (fun i => [(0, .ref hM), (1, .int (xCnt o i)), (2, .int (nI i))]) (fun _ => True) (fun i hi hI ih_i ls hl => ?_) 0 (by omega) trivial ls ?_
  · have hl : lv_has ls 3 [(0, .ref hM), (1, .int (xCnt o i)), (2, .int (nI i))] := hl
    refine lv_iload_n hx hb dX2_manyOpen_4 rfl (lv_at hl 2 rfl) ?_
    refine lv_sipush (v := 16384) hx hb dX2_manyOpen_5 (by decide) ?_
    refine lv_icmp_ge (tgt := 34) hx hb dX2_manyOpen_8 (by decide) (fun c_2 => ?_) (fun c_2 => ?_)
    · have hi9 : 16384 = i := (geN hi (by omega) rfl c_2).symm
      subst hi9
      refine lv_iload_n hx hb dX2_manyOpen_34 rfl (lv_at hl 1 rfl) ?_
      exact rd_iret hx hb hr hlocks (by rfl) dX2_manyOpen_35
    · have hlt : i < 16384 := ltN hi (by omega) rfl c_2
      refine lv_iload_n hx hb dX2_manyOpen_11 rfl (lv_at hl 1 rfl) ?_
      refine lv_aload_n hx hb dX2_manyOpen_12 rfl (lv_at hl 0 rfl) ?_
      refine va_get (D := D) (cl := vwCl) (ci := 2) (v := .ref hO) (C := RX2) (T := TX2) (N := 16) hx hb hts in_X2_manyOpen_X2 hown hK hP 0 rfl rfl 6 (by decide) (hts (.fieldLink RX2 7 "WitchTrialModel" "isOpen" "[Z") (List.mem_of_getElem? (i := 1) rfl)) (fun _ h9 => h9) rfl dX2_manyOpen_13 ?_
      refine lv_iload_n hx hb dX2_manyOpen_16 rfl (lv_at hl 2 rfl) ?_
      refine q_zald (D := D) (j := i) (v := (bI (o i))) hx hb hK hP 1 1 rfl rfl (by omega) (Nat.le_of_ble_eq_true rfl) rfl dX2_manyOpen_17 ?_
      refine lv_if_eq (tgt := 25) hx hb dX2_manyOpen_18 (by decide) (fun c_3 => ?_) (fun c_3 => ?_)
      · have c_3 : (o i) = false := bI_0 c_3
        refine lv_iconst (v := 0) hx hb dX2_manyOpen_25 (by decide) ?_
        refine lv_iadd hx hb dX2_manyOpen_26 ?_
        refine lv_istore_n (lv' := [(1, .int ((xCnt o i) + 0)), (0, .ref hM), (2, .int (nI i))]) hx hb dX2_manyOpen_27 rfl hl (by decide) rfl (fun ls hl => ?_)
        refine lv_iinc (v := (nI (i + 1))) (lv' := [(2, .int (nI (i + 1))), (1, .int ((xCnt o i) + 0)), (0, .ref hM)]) hx hb dX2_manyOpen_28 hl (k := 2) rfl (nI_1 i) (by decide) rfl (fun ls hl => ?_)
        refine lv_goto (tgt := 4) hx hb dX2_manyOpen_31 (by decide) ?_
        have eb_0 : (xCnt o (i + 1)) = ((xCnt o i) + 0) := by (first | rfl | (simp only [bI, xCnt, c_2, c_3, eq_self, ↓reduceIte]; done) | (simp only [bI, xCnt, c_2, c_3, eq_self, ↓reduceIte]; rfl) | simp [bI, xCnt, c_2, c_3])
        exact ih_i (by omega) trivial ls (by show lv_has ls 3 [(0, .ref hM), (1, .int (xCnt o (i + 1))), (2, .int (nI (i + 1)))]; rw [eb_0]; exact lv_sub hl [2, 1, 0] rfl)
      · have c_3 : (o i) = true := bI_1 c_3
        refine lv_iconst (v := 1) hx hb dX2_manyOpen_21 (by decide) ?_
        refine lv_goto (tgt := 26) hx hb dX2_manyOpen_22 (by decide) ?_
        refine lv_iadd hx hb dX2_manyOpen_26 ?_
        refine lv_istore_n (lv' := [(1, .int ((xCnt o i) + 1)), (0, .ref hM), (2, .int (nI i))]) hx hb dX2_manyOpen_27 rfl hl (by decide) rfl (fun ls hl => ?_)
        refine lv_iinc (v := (nI (i + 1))) (lv' := [(2, .int (nI (i + 1))), (1, .int ((xCnt o i) + 1)), (0, .ref hM)]) hx hb dX2_manyOpen_28 hl (k := 2) rfl (nI_1 i) (by decide) rfl (fun ls hl => ?_)
        refine lv_goto (tgt := 4) hx hb dX2_manyOpen_31 (by decide) ?_
        have eb_0 : (xCnt o (i + 1)) = ((xCnt o i) + 1) := by (first | rfl | (simp only [bI, xCnt, c_2, c_3, eq_self, ↓reduceIte]; done) | (simp only [bI, xCnt, c_2, c_3, eq_self, ↓reduceIte]; rfl) | simp [bI, xCnt, c_2, c_3])
        exact ih_i (by omega) trivial ls (by show lv_has ls 3 [(0, .ref hM), (1, .int (xCnt o (i + 1))), (2, .int (nI (i + 1)))]; rw [eb_0]; exact lv_sub hl [2, 1, 0] rfl)
  · show lv_has ls 3 [(0, .ref hM), (1, .int (xCnt o 0)), (2, .int (nI 0))]
    have en_0 : (xCnt o 0) = 0 := by rfl
    rw [en_0]
    have en_1 : (nI 0) = 0 := by exact nI_0
    rw [en_1]
    exact lv_sub hl [2, 1, 0] rfl

theorem in_X2_isFor_X2 : ∀ w ∈ wsX20, w ∈ wsX2_isFor := by decide +kernel
set_option maxHeartbeats 2000000 in
set_option maxRecDepth 100000 in
theorem c_X2_isFor (l : Launch) (D : va_G) (cI cZ cJ : ClassId) (hM : Nat) (hO : Nat) (hW : Nat) (hY : Nat) (th : Int32) (a : Nat → Int32) (o : Nat → Bool) (q : Int32) (n : Nat) (hn : n < 16384) : Rd l D cI cZ cJ yX2_isFor wsX2_isFor 2 42 [.ref hM, .int q, .int (nI n)] [cM hM hO hW hY th a, cA cZ hO 16384 (fun w => bI (o w))] (bI (xFor a o q n)) := by
  refine rd_of (by decide) rfl (Nat.le_of_ble_eq_true rfl) (fun p e s m below meth c ls hx hb hr hml hts hown hlocks hP hK hN hl => ?_)
  have hl : lv_has ls 5 [(0, .ref hM), (1, .int q), (2, .int (nI n))] := hl
  refine lv_aload_n hx hb dX2_isFor_0 rfl (lv_at hl 0 rfl) ?_
  refine va_get (D := D) (cl := vwCl) (ci := 2) (v := .ref hO) (C := RX2) (T := TX2) (N := 16) hx hb hts in_X2_isFor_X2 hown hK hP 0 rfl rfl 6 (by decide) (hts (.fieldLink RX2 7 "WitchTrialModel" "isOpen" "[Z") (List.mem_of_getElem? (i := 1) rfl)) (fun _ h9 => h9) rfl dX2_isFor_1 ?_
  refine lv_iload_n hx hb dX2_isFor_4 rfl (lv_at hl 2 rfl) ?_
  refine q_zald (D := D) (j := n) (v := (bI (o n))) hx hb hK hP 1 1 rfl rfl hn (Nat.le_of_ble_eq_true rfl) rfl dX2_isFor_5 ?_
  refine lv_if_eq (tgt := 14) hx hb dX2_isFor_6 (by decide) (fun c_1 => ?_) (fun c_1 => ?_)
  · have c_1 : (o n) = false := bI_0 c_1
    refine lv_aload_n hx hb dX2_isFor_14 rfl (lv_at hl 0 rfl) ?_
    refine va_get (D := D) (cl := vwCl) (ci := 2) (v := .ref hO) (C := RX2) (T := TX2) (N := 16) hx hb hts in_X2_isFor_X2 hown hK hP 0 rfl rfl 6 (by decide) (hts (.fieldLink RX2 7 "WitchTrialModel" "isOpen" "[Z") (List.mem_of_getElem? (i := 1) rfl)) (fun _ h9 => h9) rfl dX2_isFor_15 ?_
    refine lv_iload_n hx hb dX2_isFor_18 rfl (lv_at hl 2 rfl) ?_
    refine q_zald (D := D) (j := n) (v := (bI (o n))) hx hb hK hP 1 1 rfl rfl hn (Nat.le_of_ble_eq_true rfl) rfl dX2_isFor_19 ?_
    exact rd_zret hx hb hr hlocks (by (first | rfl | (simp only [xFor, bI, c_1, eq_self, ↓reduceIte]; done) | (simp only [xFor, bI, c_1, eq_self, ↓reduceIte]; rfl) | simp [xFor, bI, c_1])) (bI_nar _) dX2_isFor_20
  · have c_1 : (o n) = true := bI_1 c_1
    refine lv_iload_n hx hb dX2_isFor_9 rfl (lv_at hl 1 rfl) ?_
    refine lv_iconst (v := (-1)) hx hb dX2_isFor_10 (by decide) ?_
    refine lv_icmp_ne (tgt := 21) hx hb dX2_isFor_11 (by decide) (fun c_2 => ?_) (fun c_2 => ?_)
    · refine lv_aload_n hx hb dX2_isFor_21 rfl (lv_at hl 0 rfl) ?_
      refine rd_V (b := hM) (As := []) (rest := []) ⟨hx, hb, hml, hown, hts⟩ (c_X2_truth l D cI cZ cJ hM hO hW hY th a) (cwV 0 hts gX2_isFor_X2_truth rfl rfl rfl (by decide +kernel) ⟨Nat.le_of_ble_eq_true rfl, Nat.le_of_ble_eq_true rfl⟩) (hP.sub (ws' := [cM hM hO hW hY th a]) [0] rfl) hK hN (va_recv hK hP (ci := 2) (q0 := 0) rfl rfl) rfl hl.1 rfl (Nat.le_of_ble_eq_true rfl) dX2_isFor_22 ⟨Nat.le_of_ble_eq_true rfl, Nat.le_of_ble_eq_true rfl⟩ ?_
      refine lv_iload_n hx hb dX2_isFor_25 rfl (lv_at hl 1 rfl) ?_
      refine rd_S (As := [.int (xTr a), .int q]) (rest := []) ⟨hx, hb, hml, hown, hts⟩ (c_X2_roleIn l D cI cZ cJ (xTr a) q) (va_cwS 2 hts gX2_isFor_X2_roleIn rfl rfl rfl (by decide +kernel) ⟨Nat.le_of_ble_eq_true rfl, Nat.le_of_ble_eq_true rfl⟩) (hP.sub (ws' := []) [] rfl) hK hN rfl hl.1 rfl (Nat.le_of_ble_eq_true rfl) dX2_isFor_26 ⟨Nat.le_of_ble_eq_true rfl, Nat.le_of_ble_eq_true rfl⟩ ?_
      refine lv_istore_n (lv' := [(3, .int (xRole (xTr a) q)), (0, .ref hM), (1, .int q), (2, .int (nI n))]) hx hb dX2_isFor_29 rfl hl (by decide) rfl (fun ls hl => ?_)
      refine lv_iload_n hx hb dX2_isFor_30 rfl (lv_at hl 3 rfl) ?_
      refine lv_iload_n hx hb dX2_isFor_31 rfl (lv_at hl 2 rfl) ?_
      refine rd_S (As := [.int (nI n), .int q]) (rest := []) ⟨hx, hb, hml, hown, hts⟩ (c_X2_roleIn l D cI cZ cJ (nI n) q) (va_cwS 2 hts gX2_isFor_X2_roleIn rfl rfl rfl (by decide +kernel) ⟨Nat.le_of_ble_eq_true rfl, Nat.le_of_ble_eq_true rfl⟩) (hP.sub (ws' := []) [] rfl) hK hN rfl hl.1 rfl (Nat.le_of_ble_eq_true rfl) dX2_isFor_32 ⟨Nat.le_of_ble_eq_true rfl, Nat.le_of_ble_eq_true rfl⟩ ?_
      refine lv_iload_n hx hb dX2_isFor_35 rfl (lv_at hl 0 rfl) ?_
      refine lv_icmp_ne (tgt := 59) hx hb dX2_isFor_36 (by decide) (fun c_3 => ?_) (fun c_3 => ?_)
      · refine lv_iconst (v := 0) hx hb dX2_isFor_59 (by decide) ?_
        refine lv_istore (lv' := [(4, .int 0), (3, .int (xRole (xTr a) q)), (0, .ref hM), (1, .int q), (2, .int (nI n))]) hx hb dX2_isFor_60 hl (by decide) rfl (fun ls hl => ?_)
        refine lv_iload hx hb dX2_isFor_62 (lv_at hl 0 rfl) ?_
        refine lv_if_eq (tgt := 97) hx hb dX2_isFor_64 (by decide) (fun c_4 => ?_) (fun c_4 => ?_)
        · refine lv_iconst (v := 0) hx hb dX2_isFor_97 (by decide) ?_
          exact rd_zret hx hb hr hlocks (by (first | rfl | (simp only [xFor, bI, c_1, c_2, c_3, eq_self, ↓reduceIte]; done) | (simp only [xFor, bI, c_1, c_2, c_3, eq_self, ↓reduceIte]; rfl) | simp [xFor, bI, c_1, c_2, c_3])) rfl dX2_isFor_98
        · exact absurd c_4 (by decide)
      · refine lv_iload_n hx hb dX2_isFor_39 rfl (lv_at hl 0 rfl) ?_
        refine lv_iconst (v := 1) hx hb dX2_isFor_40 (by decide) ?_
        refine lv_icmp_ne (tgt := 55) hx hb dX2_isFor_41 (by decide) (fun c_5 => ?_) (fun c_5 => ?_)
        · refine lv_iconst (v := 1) hx hb dX2_isFor_55 (by decide) ?_
          refine lv_goto (tgt := 60) hx hb dX2_isFor_56 (by decide) ?_
          refine lv_istore (lv' := [(4, .int 1), (3, .int (xRole (xTr a) q)), (0, .ref hM), (1, .int q), (2, .int (nI n))]) hx hb dX2_isFor_60 hl (by decide) rfl (fun ls hl => ?_)
          refine lv_iload hx hb dX2_isFor_62 (lv_at hl 0 rfl) ?_
          refine lv_if_eq (tgt := 97) hx hb dX2_isFor_64 (by decide) (fun c_6 => ?_) (fun c_6 => ?_)
          · exact absurd c_6 (by decide)
          · refine lv_iload_n hx hb dX2_isFor_67 rfl (lv_at hl 1 rfl) ?_
            refine lv_iconst (v := 2) hx hb dX2_isFor_68 (by decide) ?_
            refine lv_icmp_ne (tgt := 93) hx hb dX2_isFor_69 (by decide) (fun c_7 => ?_) (fun c_7 => ?_)
            · refine lv_iconst (v := 1) hx hb dX2_isFor_93 (by decide) ?_
              refine lv_goto (tgt := 98) hx hb dX2_isFor_94 (by decide) ?_
              exact rd_zret hx hb hr hlocks (by (first | rfl | (simp only [xFor, bI, c_1, c_2, c_3, c_5, c_7, eq_self, ↓reduceIte]; done) | (simp only [xFor, bI, c_1, c_2, c_3, c_5, c_7, eq_self, ↓reduceIte]; rfl) | (simp only [xFor, bI, c_1, c_2, eq_true c_3, c_5, c_7, eq_self, ↓reduceIte]; done) | (simp only [xFor, bI, c_1, c_2, eq_true c_3, c_5, c_7, eq_self, ↓reduceIte]; rfl) | (simp [xFor, bI, c_1, c_2, eq_true c_3, c_5, c_7]; done) | simp [xFor, bI, c_1, c_2, c_3, c_5, c_7])) rfl dX2_isFor_98
            · refine lv_iload_n hx hb dX2_isFor_72 rfl (lv_at hl 4 rfl) ?_
              refine lv_bipush (v := 64) hx hb dX2_isFor_73 (by decide) ?_
              refine lv_idiv hx hb dX2_isFor_75 (by decide) ?_
              refine lv_aload_n hx hb dX2_isFor_76 rfl (lv_at hl 2 rfl) ?_
              refine va_get (D := D) (cl := vwCl) (ci := 2) (v := .int (a 7)) (C := RX2) (T := TX2) (N := 16) hx hb hts in_X2_isFor_X2 hown hK hP 0 rfl rfl 9 (by decide) (hts (.fieldLink RX2 60 "WitchTrialModel" "looked" "I") (List.mem_of_getElem? (i := 3) rfl)) (fun _ h9 => h9) rfl dX2_isFor_77 ?_
              refine lv_iand hx hb dX2_isFor_80 ?_
              refine lv_aload_n hx hb dX2_isFor_81 rfl (lv_at hl 2 rfl) ?_
              refine va_get (D := D) (cl := vwCl) (ci := 2) (v := .int (a 3)) (C := RX2) (T := TX2) (N := 16) hx hb hts in_X2_isFor_X2 hown hK hP 0 rfl rfl 3 (by decide) (hts (.fieldLink RX2 43 "WitchTrialModel" "witches" "I") (List.mem_of_getElem? (i := 2) rfl)) (fun _ h9 => h9) rfl dX2_isFor_82 ?_
              refine lv_aload_n hx hb dX2_isFor_85 rfl (lv_at hl 2 rfl) ?_
              refine va_get (D := D) (cl := vwCl) (ci := 2) (v := .int (a 7)) (C := RX2) (T := TX2) (N := 16) hx hb hts in_X2_isFor_X2 hown hK hP 0 rfl rfl 9 (by decide) (hts (.fieldLink RX2 60 "WitchTrialModel" "looked" "I") (List.mem_of_getElem? (i := 3) rfl)) (fun _ h9 => h9) rfl dX2_isFor_86 ?_
              refine lv_iand hx hb dX2_isFor_89 ?_
              refine lv_icmp_ne (tgt := 97) hx hb dX2_isFor_90 (by decide) (fun c_8 => ?_) (fun c_8 => ?_)
              · refine lv_iconst (v := 0) hx hb dX2_isFor_97 (by decide) ?_
                exact rd_zret hx hb hr hlocks (by (first | rfl | (simp only [xFor, bI, c_1, c_2, c_3, c_5, c_7, c_8, eq_self, ↓reduceIte]; done) | (simp only [xFor, bI, c_1, c_2, c_3, c_5, c_7, c_8, eq_self, ↓reduceIte]; rfl) | (simp only [xFor, bI, c_1, c_2, eq_true c_3, c_5, eq_true c_7, c_8, eq_self, ↓reduceIte]; done) | (simp only [xFor, bI, c_1, c_2, eq_true c_3, c_5, eq_true c_7, c_8, eq_self, ↓reduceIte]; rfl) | (simp [xFor, bI, c_1, c_2, eq_true c_3, c_5, eq_true c_7, c_8]; done) | simp [xFor, bI, c_1, c_2, c_3, c_5, c_7, c_8])) rfl dX2_isFor_98
              · refine lv_iconst (v := 1) hx hb dX2_isFor_93 (by decide) ?_
                refine lv_goto (tgt := 98) hx hb dX2_isFor_94 (by decide) ?_
                exact rd_zret hx hb hr hlocks (by (first | rfl | (simp only [xFor, bI, c_1, c_2, c_3, c_5, c_7, c_8, eq_self, ↓reduceIte]; done) | (simp only [xFor, bI, c_1, c_2, c_3, c_5, c_7, c_8, eq_self, ↓reduceIte]; rfl) | (simp only [xFor, bI, c_1, c_2, eq_true c_3, c_5, eq_true c_7, eq_true c_8, eq_self, ↓reduceIte]; done) | (simp only [xFor, bI, c_1, c_2, eq_true c_3, c_5, eq_true c_7, eq_true c_8, eq_self, ↓reduceIte]; rfl) | (simp [xFor, bI, c_1, c_2, eq_true c_3, c_5, eq_true c_7, eq_true c_8]; done) | simp [xFor, bI, c_1, c_2, c_3, c_5, c_7, c_8])) rfl dX2_isFor_98
        · refine lv_iload_n hx hb dX2_isFor_44 rfl (lv_at hl 3 rfl) ?_
          refine lv_bipush (v := 64) hx hb dX2_isFor_45 (by decide) ?_
          refine lv_idiv hx hb dX2_isFor_47 (by decide) ?_
          refine lv_aload_n hx hb dX2_isFor_48 rfl (lv_at hl 1 rfl) ?_
          refine va_get (D := D) (cl := vwCl) (ci := 2) (v := .int (a 3)) (C := RX2) (T := TX2) (N := 16) hx hb hts in_X2_isFor_X2 hown hK hP 0 rfl rfl 3 (by decide) (hts (.fieldLink RX2 43 "WitchTrialModel" "witches" "I") (List.mem_of_getElem? (i := 2) rfl)) (fun _ h9 => h9) rfl dX2_isFor_49 ?_
          refine lv_icmp_ne (tgt := 59) hx hb dX2_isFor_52 (by decide) (fun c_9 => ?_) (fun c_9 => ?_)
          · refine lv_iconst (v := 0) hx hb dX2_isFor_59 (by decide) ?_
            refine lv_istore (lv' := [(4, .int 0), (3, .int (xRole (xTr a) q)), (0, .ref hM), (1, .int q), (2, .int (nI n))]) hx hb dX2_isFor_60 hl (by decide) rfl (fun ls hl => ?_)
            refine lv_iload hx hb dX2_isFor_62 (lv_at hl 0 rfl) ?_
            refine lv_if_eq (tgt := 97) hx hb dX2_isFor_64 (by decide) (fun c_10 => ?_) (fun c_10 => ?_)
            · refine lv_iconst (v := 0) hx hb dX2_isFor_97 (by decide) ?_
              exact rd_zret hx hb hr hlocks (by (first | rfl | (simp only [xFor, bI, c_1, c_2, c_3, c_5, c_9, eq_self, ↓reduceIte]; done) | (simp only [xFor, bI, c_1, c_2, c_3, c_5, c_9, eq_self, ↓reduceIte]; rfl) | (simp only [xFor, bI, c_1, c_2, eq_true c_3, eq_true c_5, c_9, eq_self, ↓reduceIte]; done) | (simp only [xFor, bI, c_1, c_2, eq_true c_3, eq_true c_5, c_9, eq_self, ↓reduceIte]; rfl) | (simp [xFor, bI, c_1, c_2, eq_true c_3, eq_true c_5, c_9]; done) | simp [xFor, bI, c_1, c_2, c_3, c_5, c_9])) rfl dX2_isFor_98
            · exact absurd c_10 (by decide)
          · refine lv_iconst (v := 1) hx hb dX2_isFor_55 (by decide) ?_
            refine lv_goto (tgt := 60) hx hb dX2_isFor_56 (by decide) ?_
            refine lv_istore (lv' := [(4, .int 1), (3, .int (xRole (xTr a) q)), (0, .ref hM), (1, .int q), (2, .int (nI n))]) hx hb dX2_isFor_60 hl (by decide) rfl (fun ls hl => ?_)
            refine lv_iload hx hb dX2_isFor_62 (lv_at hl 0 rfl) ?_
            refine lv_if_eq (tgt := 97) hx hb dX2_isFor_64 (by decide) (fun c_11 => ?_) (fun c_11 => ?_)
            · exact absurd c_11 (by decide)
            · refine lv_iload_n hx hb dX2_isFor_67 rfl (lv_at hl 1 rfl) ?_
              refine lv_iconst (v := 2) hx hb dX2_isFor_68 (by decide) ?_
              refine lv_icmp_ne (tgt := 93) hx hb dX2_isFor_69 (by decide) (fun c_12 => ?_) (fun c_12 => ?_)
              · refine lv_iconst (v := 1) hx hb dX2_isFor_93 (by decide) ?_
                refine lv_goto (tgt := 98) hx hb dX2_isFor_94 (by decide) ?_
                exact rd_zret hx hb hr hlocks (by (first | rfl | (simp only [xFor, bI, c_1, c_2, c_3, c_5, c_9, eq_self, ↓reduceIte]; done) | (simp only [xFor, bI, c_1, c_2, c_3, c_5, c_9, eq_self, ↓reduceIte]; rfl) | (simp only [xFor, bI, c_1, c_2, eq_true c_3, eq_true c_5, eq_true c_9, eq_self, ↓reduceIte]; done) | (simp only [xFor, bI, c_1, c_2, eq_true c_3, eq_true c_5, eq_true c_9, eq_self, ↓reduceIte]; rfl) | (simp [xFor, bI, c_1, c_2, eq_true c_3, eq_true c_5, eq_true c_9]; done) | simp [xFor, bI, c_1, c_2, c_3, c_5, c_9])) rfl dX2_isFor_98
              · exact absurd (c_5.symm.trans c_12) (by decide)
    · refine lv_aload_n hx hb dX2_isFor_14 rfl (lv_at hl 0 rfl) ?_
      refine va_get (D := D) (cl := vwCl) (ci := 2) (v := .ref hO) (C := RX2) (T := TX2) (N := 16) hx hb hts in_X2_isFor_X2 hown hK hP 0 rfl rfl 6 (by decide) (hts (.fieldLink RX2 7 "WitchTrialModel" "isOpen" "[Z") (List.mem_of_getElem? (i := 1) rfl)) (fun _ h9 => h9) rfl dX2_isFor_15 ?_
      refine lv_iload_n hx hb dX2_isFor_18 rfl (lv_at hl 2 rfl) ?_
      refine q_zald (D := D) (j := n) (v := (bI (o n))) hx hb hK hP 1 1 rfl rfl hn (Nat.le_of_ble_eq_true rfl) rfl dX2_isFor_19 ?_
      exact rd_zret hx hb hr hlocks (by (first | rfl | (simp only [xFor, bI, c_1, eq_true c_2, eq_self, ↓reduceIte]; done) | (simp only [xFor, bI, c_1, eq_true c_2, eq_self, ↓reduceIte]; rfl) | simp [xFor, bI, c_1, eq_true c_2])) (bI_nar _) dX2_isFor_20

set_option maxHeartbeats 2000000 in
set_option maxRecDepth 100000 in
theorem c_X2_isTrue (l : Launch) (D : va_G) (cI cZ cJ : ClassId) (wd : Int32) (k : Int32) (q : Int32)  : Rd l D cI cZ cJ yX2_isTrue wsX2_isTrue 2 42 [.int wd, .int k, .int q] [] (bI (xTrue wd k q)) := by
  refine rd_of (by decide) rfl (Nat.le_of_ble_eq_true rfl) (fun p e s m below meth c ls hx hb hr hml hts hown hlocks hP hK hN hl => ?_)
  have hl : lv_has ls 4 [(0, .int wd), (1, .int k), (2, .int q)] := hl
  refine lv_iload_n hx hb dX2_isTrue_0 rfl (lv_at hl 0 rfl) ?_
  refine lv_iload_n hx hb dX2_isTrue_1 rfl (lv_at hl 2 rfl) ?_
  refine rd_S (As := [.int wd, .int q]) (rest := []) ⟨hx, hb, hml, hown, hts⟩ (c_X2_roleIn l D cI cZ cJ wd q) (va_cwS 2 hts gX2_isTrue_X2_roleIn rfl rfl rfl (by decide +kernel) ⟨Nat.le_of_ble_eq_true rfl, Nat.le_of_ble_eq_true rfl⟩) (hP.sub (ws' := []) [] rfl) hK hN rfl hl.1 rfl (Nat.le_of_ble_eq_true rfl) dX2_isTrue_2 ⟨Nat.le_of_ble_eq_true rfl, Nat.le_of_ble_eq_true rfl⟩ ?_
  refine lv_istore_n (lv' := [(3, .int (xRole wd q)), (0, .int wd), (1, .int k), (2, .int q)]) hx hb dX2_isTrue_5 rfl hl (by decide) rfl (fun ls hl => ?_)
  refine lv_iload_n hx hb dX2_isTrue_6 rfl (lv_at hl 2 rfl) ?_
  refine lv_if_ne (tgt := 23) hx hb dX2_isTrue_7 (by decide) (fun c_1 => ?_) (fun c_1 => ?_)
  · refine lv_iload_n hx hb dX2_isTrue_23 rfl (lv_at hl 2 rfl) ?_
    refine lv_iconst (v := 1) hx hb dX2_isTrue_24 (by decide) ?_
    refine lv_icmp_ne (tgt := 41) hx hb dX2_isTrue_25 (by decide) (fun c_2 => ?_) (fun c_2 => ?_)
    · refine lv_iload_n hx hb dX2_isTrue_41 rfl (lv_at hl 2 rfl) ?_
      refine lv_iconst (v := 2) hx hb dX2_isTrue_42 (by decide) ?_
      refine lv_icmp_ne (tgt := 59) hx hb dX2_isTrue_43 (by decide) (fun c_3 => ?_) (fun c_3 => ?_)
      · refine lv_iload_n hx hb dX2_isTrue_59 rfl (lv_at hl 0 rfl) ?_
        refine lv_iconst (v := 3) hx hb dX2_isTrue_60 (by decide) ?_
        refine lv_icmp_ne (tgt := 68) hx hb dX2_isTrue_61 (by decide) (fun c_4 => ?_) (fun c_4 => ?_)
        · refine lv_iconst (v := 0) hx hb dX2_isTrue_68 (by decide) ?_
          exact rd_zret hx hb hr hlocks (by (first | rfl | (simp only [xTrue, bI, c_1, c_2, c_3, c_4, eq_self, ↓reduceIte]; done) | (simp only [xTrue, bI, c_1, c_2, c_3, c_4, eq_self, ↓reduceIte]; rfl) | simp [xTrue, bI, c_1, c_2, c_3, c_4])) rfl dX2_isTrue_69
        · refine lv_iconst (v := 1) hx hb dX2_isTrue_64 (by decide) ?_
          refine lv_goto (tgt := 69) hx hb dX2_isTrue_65 (by decide) ?_
          exact rd_zret hx hb hr hlocks (by (first | rfl | (simp only [xTrue, bI, c_1, c_2, c_3, c_4, eq_self, ↓reduceIte]; done) | (simp only [xTrue, bI, c_1, c_2, c_3, c_4, eq_self, ↓reduceIte]; rfl) | (simp only [xTrue, bI, c_1, c_2, c_3, eq_true c_4, eq_self, ↓reduceIte]; done) | (simp only [xTrue, bI, c_1, c_2, c_3, eq_true c_4, eq_self, ↓reduceIte]; rfl) | (simp [xTrue, bI, c_1, c_2, c_3, eq_true c_4]; done) | simp [xTrue, bI, c_1, c_2, c_3, c_4])) rfl dX2_isTrue_69
      · refine lv_iload_n hx hb dX2_isTrue_46 rfl (lv_at hl 0 rfl) ?_
        refine lv_iconst (v := 2) hx hb dX2_isTrue_47 (by decide) ?_
        refine lv_icmp_ne (tgt := 55) hx hb dX2_isTrue_48 (by decide) (fun c_5 => ?_) (fun c_5 => ?_)
        · refine lv_iconst (v := 0) hx hb dX2_isTrue_55 (by decide) ?_
          refine lv_goto (tgt := 69) hx hb dX2_isTrue_56 (by decide) ?_
          exact rd_zret hx hb hr hlocks (by (first | rfl | (simp only [xTrue, bI, c_1, c_2, eq_true c_3, c_5, eq_self, ↓reduceIte]; done) | (simp only [xTrue, bI, c_1, c_2, eq_true c_3, c_5, eq_self, ↓reduceIte]; rfl) | simp [xTrue, bI, c_1, c_2, eq_true c_3, c_5])) rfl dX2_isTrue_69
        · refine lv_iconst (v := 1) hx hb dX2_isTrue_51 (by decide) ?_
          refine lv_goto (tgt := 69) hx hb dX2_isTrue_52 (by decide) ?_
          exact rd_zret hx hb hr hlocks (by (first | rfl | (simp only [xTrue, bI, c_1, c_2, eq_true c_3, c_5, eq_self, ↓reduceIte]; done) | (simp only [xTrue, bI, c_1, c_2, eq_true c_3, c_5, eq_self, ↓reduceIte]; rfl) | (simp only [xTrue, bI, c_1, c_2, eq_true c_3, eq_true c_5, eq_self, ↓reduceIte]; done) | (simp only [xTrue, bI, c_1, c_2, eq_true c_3, eq_true c_5, eq_self, ↓reduceIte]; rfl) | (simp [xTrue, bI, c_1, c_2, eq_true c_3, eq_true c_5]; done) | simp [xTrue, bI, c_1, c_2, eq_true c_3, c_5])) rfl dX2_isTrue_69
    · refine lv_iload_n hx hb dX2_isTrue_28 rfl (lv_at hl 0 rfl) ?_
      refine lv_iconst (v := 1) hx hb dX2_isTrue_29 (by decide) ?_
      refine lv_icmp_eq (tgt := 37) hx hb dX2_isTrue_30 (by decide) (fun c_6 => ?_) (fun c_6 => ?_)
      · refine lv_iconst (v := 0) hx hb dX2_isTrue_37 (by decide) ?_
        refine lv_goto (tgt := 69) hx hb dX2_isTrue_38 (by decide) ?_
        exact rd_zret hx hb hr hlocks (by (first | rfl | (simp only [xTrue, bI, c_1, eq_true c_2, c_6, eq_self, ↓reduceIte]; done) | (simp only [xTrue, bI, c_1, eq_true c_2, c_6, eq_self, ↓reduceIte]; rfl) | (simp only [xTrue, bI, c_1, eq_true c_2, eq_true c_6, eq_self, ↓reduceIte]; done) | (simp only [xTrue, bI, c_1, eq_true c_2, eq_true c_6, eq_self, ↓reduceIte]; rfl) | (simp [xTrue, bI, c_1, eq_true c_2, eq_true c_6]; done) | simp [xTrue, bI, c_1, eq_true c_2, c_6])) rfl dX2_isTrue_69
      · refine lv_iconst (v := 1) hx hb dX2_isTrue_33 (by decide) ?_
        refine lv_goto (tgt := 69) hx hb dX2_isTrue_34 (by decide) ?_
        exact rd_zret hx hb hr hlocks (by (first | rfl | (simp only [xTrue, bI, c_1, eq_true c_2, c_6, eq_self, ↓reduceIte]; done) | (simp only [xTrue, bI, c_1, eq_true c_2, c_6, eq_self, ↓reduceIte]; rfl) | simp [xTrue, bI, c_1, eq_true c_2, c_6])) rfl dX2_isTrue_69
  · refine lv_iload_n hx hb dX2_isTrue_10 rfl (lv_at hl 0 rfl) ?_
    refine lv_iconst (v := 1) hx hb dX2_isTrue_11 (by decide) ?_
    refine lv_icmp_ne (tgt := 19) hx hb dX2_isTrue_12 (by decide) (fun c_7 => ?_) (fun c_7 => ?_)
    · refine lv_iconst (v := 0) hx hb dX2_isTrue_19 (by decide) ?_
      refine lv_goto (tgt := 69) hx hb dX2_isTrue_20 (by decide) ?_
      exact rd_zret hx hb hr hlocks (by (first | rfl | (simp only [xTrue, bI, eq_true c_1, c_7, eq_self, ↓reduceIte]; done) | (simp only [xTrue, bI, eq_true c_1, c_7, eq_self, ↓reduceIte]; rfl) | simp [xTrue, bI, eq_true c_1, c_7])) rfl dX2_isTrue_69
    · refine lv_iconst (v := 1) hx hb dX2_isTrue_15 (by decide) ?_
      refine lv_goto (tgt := 69) hx hb dX2_isTrue_16 (by decide) ?_
      exact rd_zret hx hb hr hlocks (by (first | rfl | (simp only [xTrue, bI, eq_true c_1, c_7, eq_self, ↓reduceIte]; done) | (simp only [xTrue, bI, eq_true c_1, c_7, eq_self, ↓reduceIte]; rfl) | (simp only [xTrue, bI, eq_true c_1, eq_true c_7, eq_self, ↓reduceIte]; done) | (simp only [xTrue, bI, eq_true c_1, eq_true c_7, eq_self, ↓reduceIte]; rfl) | (simp [xTrue, bI, eq_true c_1, eq_true c_7]; done) | simp [xTrue, bI, eq_true c_1, c_7])) rfl dX2_isTrue_69

theorem in_X2_may_X2 : ∀ w ∈ wsX20, w ∈ wsX2_may := by decide +kernel
set_option maxHeartbeats 2000000 in
set_option maxRecDepth 100000 in
theorem c_X2_may (l : Launch) (D : va_G) (cI cZ cJ : ClassId) (hM : Nat) (hO : Nat) (hW : Nat) (hY : Nat) (th : Int32) (a : Nat → Int32) (q : Int32) (b : Bool)  : Rd l D cI cZ cJ yX2_may wsX2_may 1 21 [.ref hM, .int q, .int (bI b)] [cM hM hO hW hY th a] (bI (xMay a q b)) := by
  refine rd_of (by decide) rfl (Nat.le_of_ble_eq_true rfl) (fun p e s m below meth c ls hx hb hr hml hts hown hlocks hP hK hN hl => ?_)
  have hl : lv_has ls 3 [(0, .ref hM), (1, .int q), (2, .int (bI b))] := hl
  refine lv_aload_n hx hb dX2_may_0 rfl (lv_at hl 0 rfl) ?_
  refine va_get (D := D) (cl := vwCl) (ci := 2) (v := .int (a 0)) (C := RX2) (T := TX2) (N := 16) hx hb hts in_X2_may_X2 hown hK hP 0 rfl rfl 1 (by decide) (hts (.fieldLink RX2 70 "WitchTrialModel" "phase" "I") (List.mem_of_getElem? (i := 1) rfl)) (fun _ h9 => h9) rfl dX2_may_1 ?_
  refine lv_iconst (v := 1) hx hb dX2_may_4 (by decide) ?_
  refine lv_icmp_ne (tgt := 38) hx hb dX2_may_5 (by decide) (fun c_1 => ?_) (fun c_1 => ?_)
  · refine lv_iconst (v := 0) hx hb dX2_may_38 (by decide) ?_
    exact rd_zret hx hb hr hlocks (by (first | rfl | (simp only [xMay, bI, c_1, eq_self, ↓reduceIte]; done) | (simp only [xMay, bI, c_1, eq_self, ↓reduceIte]; rfl) | simp [xMay, bI, c_1])) rfl dX2_may_39
  · refine lv_aload_n hx hb dX2_may_8 rfl (lv_at hl 0 rfl) ?_
    refine va_get (D := D) (cl := vwCl) (ci := 2) (v := .int (a 6)) (C := RX2) (T := TX2) (N := 16) hx hb hts in_X2_may_X2 hown hK hP 0 rfl rfl 7 (by decide) (hts (.fieldLink RX2 67 "WitchTrialModel" "alive" "I") (List.mem_of_getElem? (i := 2) rfl)) (fun _ h9 => h9) rfl dX2_may_9 ?_
    refine lv_iload_n hx hb dX2_may_12 rfl (lv_at hl 1 rfl) ?_
    refine rd_S (As := [.int (a 6), .int q]) (rest := []) ⟨hx, hb, hml, hown, hts⟩ (c_X2_has l D cI cZ cJ (a 6) q) (va_cwS 2 hts gX2_may_X2_has rfl rfl rfl (by decide +kernel) ⟨Nat.le_of_ble_eq_true rfl, Nat.le_of_ble_eq_true rfl⟩) (hP.sub (ws' := []) [] rfl) hK hN rfl hl.1 rfl (Nat.le_of_ble_eq_true rfl) dX2_may_13 ⟨Nat.le_of_ble_eq_true rfl, Nat.le_of_ble_eq_true rfl⟩ ?_
    refine lv_if_eq (tgt := 38) hx hb dX2_may_16 (by decide) (fun c_2 => ?_) (fun c_2 => ?_)
    · have c_2 : (xHas (a 6) q) = false := bI_0 c_2
      refine lv_iconst (v := 0) hx hb dX2_may_38 (by decide) ?_
      exact rd_zret hx hb hr hlocks (by (first | rfl | (simp only [xMay, bI, c_1, c_2, eq_self, ↓reduceIte]; done) | (simp only [xMay, bI, c_1, c_2, eq_self, ↓reduceIte]; rfl) | (simp only [xMay, bI, eq_true c_1, c_2, eq_self, ↓reduceIte]; done) | (simp only [xMay, bI, eq_true c_1, c_2, eq_self, ↓reduceIte]; rfl) | (simp [xMay, bI, eq_true c_1, c_2]; done) | simp [xMay, bI, c_1, c_2])) rfl dX2_may_39
    · have c_2 : (xHas (a 6) q) = true := bI_1 c_2
      refine lv_iload_n hx hb dX2_may_19 rfl (lv_at hl 2 rfl) ?_
      refine lv_if_ne (tgt := 34) hx hb dX2_may_20 (by decide) (fun c_3 => ?_) (fun c_3 => ?_)
      · have c_3 : b = true := bI_1 c_3
        refine lv_iconst (v := 1) hx hb dX2_may_34 (by decide) ?_
        refine lv_goto (tgt := 39) hx hb dX2_may_35 (by decide) ?_
        exact rd_zret hx hb hr hlocks (by (first | rfl | (simp only [xMay, bI, c_1, c_2, c_3, eq_self, ↓reduceIte]; done) | (simp only [xMay, bI, c_1, c_2, c_3, eq_self, ↓reduceIte]; rfl) | (simp only [xMay, bI, eq_true c_1, c_2, c_3, eq_self, ↓reduceIte]; done) | (simp only [xMay, bI, eq_true c_1, c_2, c_3, eq_self, ↓reduceIte]; rfl) | (simp [xMay, bI, eq_true c_1, c_2, c_3]; done) | simp [xMay, bI, c_1, c_2, c_3])) rfl dX2_may_39
      · have c_3 : b = false := bI_0 c_3
        refine lv_aload_n hx hb dX2_may_23 rfl (lv_at hl 0 rfl) ?_
        refine va_get (D := D) (cl := vwCl) (ci := 2) (v := .int (a 3)) (C := RX2) (T := TX2) (N := 16) hx hb hts in_X2_may_X2 hown hK hP 0 rfl rfl 3 (by decide) (hts (.fieldLink RX2 43 "WitchTrialModel" "witches" "I") (List.mem_of_getElem? (i := 3) rfl)) (fun _ h9 => h9) rfl dX2_may_24 ?_
        refine lv_iload_n hx hb dX2_may_27 rfl (lv_at hl 1 rfl) ?_
        refine rd_S (As := [.int (a 3), .int q]) (rest := []) ⟨hx, hb, hml, hown, hts⟩ (c_X2_has l D cI cZ cJ (a 3) q) (va_cwS 2 hts gX2_may_X2_has rfl rfl rfl (by decide +kernel) ⟨Nat.le_of_ble_eq_true rfl, Nat.le_of_ble_eq_true rfl⟩) (hP.sub (ws' := []) [] rfl) hK hN rfl hl.1 rfl (Nat.le_of_ble_eq_true rfl) dX2_may_28 ⟨Nat.le_of_ble_eq_true rfl, Nat.le_of_ble_eq_true rfl⟩ ?_
        refine lv_if_eq (tgt := 38) hx hb dX2_may_31 (by decide) (fun c_4 => ?_) (fun c_4 => ?_)
        · have c_4 : (xHas (a 3) q) = false := bI_0 c_4
          refine lv_iconst (v := 0) hx hb dX2_may_38 (by decide) ?_
          exact rd_zret hx hb hr hlocks (by (first | rfl | (simp only [xMay, bI, c_1, c_2, c_3, c_4, eq_self, ↓reduceIte]; done) | (simp only [xMay, bI, c_1, c_2, c_3, c_4, eq_self, ↓reduceIte]; rfl) | (simp only [xMay, bI, eq_true c_1, c_2, c_3, c_4, eq_self, ↓reduceIte]; done) | (simp only [xMay, bI, eq_true c_1, c_2, c_3, c_4, eq_self, ↓reduceIte]; rfl) | (simp [xMay, bI, eq_true c_1, c_2, c_3, c_4]; done) | simp [xMay, bI, c_1, c_2, c_3, c_4])) rfl dX2_may_39
        · have c_4 : (xHas (a 3) q) = true := bI_1 c_4
          refine lv_iconst (v := 1) hx hb dX2_may_34 (by decide) ?_
          refine lv_goto (tgt := 39) hx hb dX2_may_35 (by decide) ?_
          exact rd_zret hx hb hr hlocks (by (first | rfl | (simp only [xMay, bI, c_1, c_2, c_3, c_4, eq_self, ↓reduceIte]; done) | (simp only [xMay, bI, c_1, c_2, c_3, c_4, eq_self, ↓reduceIte]; rfl) | (simp only [xMay, bI, eq_true c_1, c_2, c_3, c_4, eq_self, ↓reduceIte]; done) | (simp only [xMay, bI, eq_true c_1, c_2, c_3, c_4, eq_self, ↓reduceIte]; rfl) | (simp [xMay, bI, eq_true c_1, c_2, c_3, c_4]; done) | simp [xMay, bI, c_1, c_2, c_3, c_4])) rfl dX2_may_39

theorem in_X2_phase_X2 : ∀ w ∈ wsX20, w ∈ wsX2_phase := by decide +kernel
set_option maxHeartbeats 2000000 in
set_option maxRecDepth 100000 in
theorem c_X2_phase (l : Launch) (D : va_G) (cI cZ cJ : ClassId) (sz : Nat) (hM : Nat) (hO : Nat) (hW : Nat) (hY : Nat) (th : Int32) (a : Nat → Int32)  : Mi l D cI cZ cJ yX2_phase wsX2_phase 0 0 sz [.ref hM] [cM hM hO hW hY th a] [cM hM hO hW hY 0 a] (a 0) := by
  refine mi_of (by decide) rfl (Nat.le_of_ble_eq_true rfl) (fun p e s m below meth c ls A hx hb hr hml hts hown hlocks hin hP hK hN hD hA hS hl => ?_)
  have hl : lv_has ls 1 [(0, .ref hM)] := hl
  refine lv_aload_n hx hb dX2_phase_0 rfl (lv_at hl 0 rfl) ?_
  refine lv_iconst (v := 0) hx hb dX2_phase_1 (by decide) ?_
  refine va_put (D := D) (cl := vwCl) (ci := 2) (v := .int 0) (ty := .int) (C := RX2) (T := TX2) (N := 16) hx hb hts in_X2_phase_X2 tyX2 tyX2_ok nmX2 hown hK hP hD hS 0 rfl rfl 0 (by decide) (hts (.fieldLink RX2 20 "WitchTrialModel" "thrown" "I") (List.mem_of_getElem? (i := 1) rfl)) (fun _ h9 => h9) rfl (by decide +kernel) rfl rfl (Nat.le_of_ble_eq_true rfl) dX2_phase_2 (fun H locs hP hD hS => ?_)
  have hP : va_P D vwCl [cM hM hO hW hY 0 a] H := hP
  have hD : va_D A [cM hM hO hW hY 0 a] := hD
  refine lv_aload_n hx hb dX2_phase_5 rfl (lv_at hl 0 rfl) ?_
  refine va_get (D := D) (cl := vwCl) (ci := 2) (v := .int (a 0)) (C := RX2) (T := TX2) (N := 16) hx hb hts in_X2_phase_X2 hown hK hP 0 rfl rfl 1 (by decide) (hts (.fieldLink RX2 70 "WitchTrialModel" "phase" "I") (List.mem_of_getElem? (i := 2) rfl)) (fun _ h9 => h9) rfl dX2_phase_6 ?_
  have hP9 : va_P D vwCl [cM hM hO hW hY 0 a] H := by
    exact hP
  exact mi_iret hx hb hr hlocks hS (by rfl) hP9 dX2_phase_9

theorem in_X2_forgets_X2 : ∀ w ∈ wsX20, w ∈ wsX2_forgets := by decide +kernel
set_option maxHeartbeats 2000000 in
set_option maxRecDepth 100000 in
theorem c_X2_forgets (l : Launch) (D : va_G) (cI cZ cJ : ClassId) (sz : Nat) (hM : Nat) (hO : Nat) (hW : Nat) (hY : Nat) (th : Int32) (a : Nat → Int32) (v : Nat → Int32)  : Mv l D cI cZ cJ yX2_forgets wsX2_forgets 0 0 sz [.ref hM] [cM hM hO hW hY th a, cA cI hW 8 v] [cM hM hO hW hY th (aF a), cA cI hW 8 (iUp vM v 8)] := by
  refine mv_of (by decide) rfl (Nat.le_of_ble_eq_true rfl) (fun p e s m below meth c ls A hx hb hr hml hts hown hlocks hin hP hK hN hD hA hS hl => ?_)
  have hl : lv_has ls 2 [(0, .ref hM)] := hl
  refine lv_iconst (v := 0) hx hb dX2_forgets_0 (by decide) ?_
  refine lv_istore_n (lv' := [(1, .int 0), (0, .ref hM)]) hx hb dX2_forgets_1 rfl hl (by decide) rfl (fun ls hl => ?_)
  refine loop_M (D := D) (nL := 2) (h := 2) 8 (fun i => [(0, .ref hM), (1, .int (nI i))]) (fun i => [cM hM hO hW hY th a, cA cI hW 8 (iUp vM v i)]) (fun _ => True) (fun i hi hI ih_i H locs ls hP hD hS hl => ?_) 0 (by omega) trivial _ _ ls ?_ ?_ hS ?_
  · have hl : lv_has ls 2 [(0, .ref hM), (1, .int (nI i))] := hl
    have hP : va_P D vwCl [cM hM hO hW hY th a, cA cI hW 8 (iUp vM v i)] H := hP
    have hD : va_D A [cM hM hO hW hY th a, cA cI hW 8 (iUp vM v i)] := hD
    refine lv_iload_n hx hb dX2_forgets_2 rfl (lv_at hl 1 rfl) ?_
    refine lv_bipush (v := 8) hx hb dX2_forgets_3 (by decide) ?_
    refine lv_icmp_ge (tgt := 21) hx hb dX2_forgets_5 (by decide) (fun c_2 => ?_) (fun c_2 => ?_)
    · have hi9 : 8 = i := (geN hi (by omega) rfl c_2).symm
      subst hi9
      refine lv_aload_n hx hb dX2_forgets_21 rfl (lv_at hl 0 rfl) ?_
      refine lv_iconst (v := (-1)) hx hb dX2_forgets_22 (by decide) ?_
      refine va_put (D := D) (cl := vwCl) (ci := 2) (v := .int (-1)) (ty := .int) (C := RX2) (T := TX2) (N := 16) hx hb hts in_X2_forgets_X2 tyX2 tyX2_ok nmX2 hown hK hP hD hS 0 rfl rfl 11 (by decide) (hts (.fieldLink RX2 85 "WitchTrialModel" "shielded" "I") (List.mem_of_getElem? (i := 2) rfl)) (fun _ h9 => h9) rfl (by decide +kernel) rfl rfl (Nat.le_of_ble_eq_true rfl) dX2_forgets_23 (fun H locs hP hD hS => ?_)
      have hP : va_P D vwCl [cM hM hO hW hY th (upd a 8 (-1)), cA cI hW 8 (iUp vM v 8)] H := hP
      have hD : va_D A [cM hM hO hW hY th (upd a 8 (-1)), cA cI hW 8 (iUp vM v 8)] := hD
      refine lv_aload_n hx hb dX2_forgets_26 rfl (lv_at hl 0 rfl) ?_
      refine lv_iconst (v := (-1)) hx hb dX2_forgets_27 (by decide) ?_
      refine va_put (D := D) (cl := vwCl) (ci := 2) (v := .int (-1)) (ty := .int) (C := RX2) (T := TX2) (N := 16) hx hb hts in_X2_forgets_X2 tyX2 tyX2_ok nmX2 hown hK hP hD hS 0 rfl rfl 13 (by decide) (hts (.fieldLink RX2 88 "WitchTrialModel" "attacked" "I") (List.mem_of_getElem? (i := 3) rfl)) (fun _ h9 => h9) rfl (by decide +kernel) rfl rfl (Nat.le_of_ble_eq_true rfl) dX2_forgets_28 (fun H locs hP hD hS => ?_)
      have hP : va_P D vwCl [cM hM hO hW hY th (upd (upd a 8 (-1)) 9 (-1)), cA cI hW 8 (iUp vM v 8)] H := hP
      have hD : va_D A [cM hM hO hW hY th (upd (upd a 8 (-1)) 9 (-1)), cA cI hW 8 (iUp vM v 8)] := hD
      refine lv_aload_n hx hb dX2_forgets_31 rfl (lv_at hl 0 rfl) ?_
      refine lv_iconst (v := (-1)) hx hb dX2_forgets_32 (by decide) ?_
      refine va_put (D := D) (cl := vwCl) (ci := 2) (v := .int (-1)) (ty := .int) (C := RX2) (T := TX2) (N := 16) hx hb hts in_X2_forgets_X2 tyX2 tyX2_ok nmX2 hown hK hP hD hS 0 rfl rfl 14 (by decide) (hts (.fieldLink RX2 91 "WitchTrialModel" "watched" "I") (List.mem_of_getElem? (i := 4) rfl)) (fun _ h9 => h9) rfl (by decide +kernel) rfl rfl (Nat.le_of_ble_eq_true rfl) dX2_forgets_33 (fun H locs hP hD hS => ?_)
      have hP : va_P D vwCl [cM hM hO hW hY th (upd (upd (upd a 8 (-1)) 9 (-1)) 10 (-1)), cA cI hW 8 (iUp vM v 8)] H := hP
      have hD : va_D A [cM hM hO hW hY th (upd (upd (upd a 8 (-1)) 9 (-1)) 10 (-1)), cA cI hW 8 (iUp vM v 8)] := hD
      have hP9 : va_P D vwCl [cM hM hO hW hY th (aF a), cA cI hW 8 (iUp vM v 8)] H := by
        have e9_0 : (aF a) = (upd (upd (upd a 8 (-1)) 9 (-1)) 10 (-1)) := by (first | rfl | (simp only [aF, bI, eq_self, ↓reduceIte]; done) | (simp only [aF, bI, eq_self, ↓reduceIte]; rfl) | simp [aF, bI])
        rw [e9_0]
        exact hP
      exact mv_ret hx hb hr hlocks hS hP9 dX2_forgets_36
    · have hlt : i < 8 := ltN hi (by omega) rfl c_2
      refine lv_aload_n hx hb dX2_forgets_8 rfl (lv_at hl 0 rfl) ?_
      refine va_get (D := D) (cl := vwCl) (ci := 2) (v := .ref hW) (C := RX2) (T := TX2) (N := 16) hx hb hts in_X2_forgets_X2 hown hK hP 0 rfl rfl 10 (by decide) (hts (.fieldLink RX2 13 "WitchTrialModel" "votes" "[I") (List.mem_of_getElem? (i := 1) rfl)) (fun _ h9 => h9) rfl dX2_forgets_9 ?_
      refine lv_iload_n hx hb dX2_forgets_12 rfl (lv_at hl 1 rfl) ?_
      refine lv_iconst (v := (-1)) hx hb dX2_forgets_13 (by decide) ?_
      refine q_iast (D := D) (j := i) hx hb hK hP hD hS 1 0 rfl rfl (by omega) (Nat.le_of_ble_eq_true rfl) dX2_forgets_14 (fun H locs hP hD hS => ?_)
      have hP : va_P D vwCl [cM hM hO hW hY th a, cA cI hW 8 (upd (iUp vM v i) i (-1))] H := hP
      have hD : va_D A [cM hM hO hW hY th a, cA cI hW 8 (upd (iUp vM v i) i (-1))] := hD
      refine lv_iinc (v := (nI (i + 1))) (lv' := [(1, .int (nI (i + 1))), (0, .ref hM)]) hx hb dX2_forgets_15 hl (k := 1) rfl (nI_1 i) (by decide) rfl (fun ls hl => ?_)
      refine lv_goto (tgt := 2) hx hb dX2_forgets_18 (by decide) ?_
      have ew_0 : (iUp vM v (i + 1)) = (upd (iUp vM v i) i (-1)) := by exact iUp_step rfl
      exact ih_i (by omega) trivial _ _ ls (by show va_P D vwCl [cM hM hO hW hY th a, cA cI hW 8 (iUp vM v (i + 1))] _; rw [ew_0]; exact hP) (by show va_D A [cM hM hO hW hY th a, cA cI hW 8 (iUp vM v (i + 1))]; rw [ew_0]; exact hD) hS (by show lv_has ls 2 [(0, .ref hM), (1, .int (nI (i + 1)))]; exact lv_sub hl [1, 0] rfl)
  · show va_P D vwCl [cM hM hO hW hY th a, cA cI hW 8 (iUp vM v 0)] _
    have ez_0 : (iUp vM v 0) = v := by exact iUp_0 _ _
    rw [ez_0]
    exact hP
  · show va_D A [cM hM hO hW hY th a, cA cI hW 8 (iUp vM v 0)]
    have ez_0 : (iUp vM v 0) = v := by exact iUp_0 _ _
    rw [ez_0]
    exact hD
  · show lv_has ls 2 [(0, .ref hM), (1, .int (nI 0))]
    have en_0 : (nI 0) = 0 := by exact nI_0
    rw [en_0]
    exact lv_sub hl [1, 0] rfl

theorem in_X2_start_X2 : ∀ w ∈ wsX20, w ∈ wsX2_start := by decide +kernel
set_option maxHeartbeats 2000000 in
set_option maxRecDepth 100000 in
theorem c_X2_start (l : Launch) (D : va_G) (cI cZ cJ : ClassId) (sz : Nat) (hM : Nat) (hO : Nat) (hW : Nat) (hY : Nat) (th : Int32) (a : Nat → Int32) (o : Nat → Bool) (v : Nat → Int32) (pl : Int32) (wi : Int32) (se : Int32) (gu : Int32) (hk : xGood pl wi se gu = true) : Mi l D cI cZ cJ yX2_start wsX2_start 2 47 sz [.ref hM, .int pl, .int wi, .int se, .int gu] [cM hM hO hW hY th a, cA cZ hO 16384 (fun w => bI (o w)), cA cI hW 8 v] [cM hM hO hW hY 0 (aSt a pl wi se gu), cA cZ hO 16384 (fun w => bI ((oUp (nW pl (xCt wi)) o 16384) w)), cA cI hW 8 (iUp vM v 8)] (xCnt (oUp (nW pl (xCt wi)) o 16384) 16384) := by
  refine mi_of (by decide) rfl (Nat.le_of_ble_eq_true rfl) (fun p e s m below meth c ls A hx hb hr hml hts hown hlocks hin hP hK hN hD hA hS hl => ?_)
  have hl : lv_has ls 8 [(0, .ref hM), (1, .int pl), (2, .int wi), (3, .int se), (4, .int gu)] := hl
  refine lv_iload_n hx hb dX2_start_0 rfl (lv_at hl 2 rfl) ?_
  refine lv_if_ge (tgt := 8) hx hb dX2_start_1 (by decide) (fun c_1 => ?_) (fun c_1 => ?_)
  · refine lv_iload_n hx hb dX2_start_8 rfl (lv_at hl 2 rfl) ?_
    refine rd_S (As := [.int wi]) (rest := []) ⟨hx, hb, hml, hown, hts⟩ (c_X2_bits l D cI cZ cJ wi) (va_cwS 1 hts gX2_start_X2_bits rfl rfl rfl (by decide +kernel) ⟨Nat.le_of_ble_eq_true rfl, Nat.le_of_ble_eq_true rfl⟩) (hP.sub (ws' := []) [] rfl) hK hN rfl hl.1 rfl (Nat.le_of_ble_eq_true rfl) dX2_start_9 ⟨Nat.le_of_ble_eq_true rfl, Nat.le_of_ble_eq_true rfl⟩ ?_
    refine lv_istore (lv' := [(5, .int (xBits wi 8)), (0, .ref hM), (1, .int pl), (2, .int wi), (3, .int se), (4, .int gu)]) hx hb dX2_start_12 hl (by decide) rfl (fun ls hl => ?_)
    refine lv_iload_n hx hb dX2_start_14 rfl (lv_at hl 2 rfl) ?_
    refine lv_iconst (v := 4) hx hb dX2_start_15 (by decide) ?_
    refine lv_bipush (v := 8) hx hb dX2_start_16 (by decide) ?_
    refine rd_S (As := [.int pl, .int 4, .int 8]) (rest := []) ⟨hx, hb, hml, hown, hts⟩ (c_X2_in l D cI cZ cJ pl 4 8) (va_cwS 3 hts gX2_start_X2_in rfl rfl rfl (by decide +kernel) ⟨Nat.le_of_ble_eq_true rfl, Nat.le_of_ble_eq_true rfl⟩) (hP.sub (ws' := []) [] rfl) hK hN rfl hl.1 rfl (Nat.le_of_ble_eq_true rfl) dX2_start_18 ⟨Nat.le_of_ble_eq_true rfl, Nat.le_of_ble_eq_true rfl⟩ ?_
    refine lv_if_eq (tgt := 54) hx hb dX2_start_21 (by decide) (fun c_2 => ?_) (fun c_2 => ?_)
    · have c_2 : (xIn pl 4 8) = false := bI_0 c_2
      refine lv_iconst (v := 0) hx hb dX2_start_54 (by decide) ?_
      refine lv_istore (lv' := [(6, .int 0), (5, .int (xBits wi 8)), (0, .ref hM), (1, .int pl), (2, .int wi), (3, .int se), (4, .int gu)]) hx hb dX2_start_55 hl (by decide) rfl (fun ls hl => ?_)
      refine lv_aload_n hx hb dX2_start_57 rfl (lv_at hl 2 rfl) ?_
      refine lv_iload hx hb dX2_start_58 (lv_at hl 0 rfl) ?_
      refine lv_if_eq (tgt := 67) hx hb dX2_start_60 (by decide) (fun c_3 => ?_) (fun c_3 => ?_)
      · refine lv_iconst (v := 1) hx hb dX2_start_67 (by decide) ?_
        refine va_put (D := D) (cl := vwCl) (ci := 2) (v := .int 1) (ty := .int) (C := RX2) (T := TX2) (N := 16) hx hb hts in_X2_start_X2 tyX2 tyX2_ok nmX2 hown hK hP hD hS 0 rfl rfl 0 (by decide) (hts (.fieldLink RX2 20 "WitchTrialModel" "thrown" "I") (List.mem_of_getElem? (i := 1) rfl)) (fun _ h9 => h9) rfl (by decide +kernel) rfl rfl (Nat.le_of_ble_eq_true rfl) dX2_start_68 (fun H locs hP hD hS => ?_)
        have hP : va_P D vwCl [cM hM hO hW hY 1 a, cA cZ hO 16384 (fun w => bI (o w)), cA cI hW 8 v] H := hP
        have hD : va_D A [cM hM hO hW hY 1 a, cA cZ hO 16384 (fun w => bI (o w)), cA cI hW 8 v] := hD
        refine lv_aload_n hx hb dX2_start_71 rfl (lv_at hl 2 rfl) ?_
        refine va_get (D := D) (cl := vwCl) (ci := 2) (v := .int 1) (C := RX2) (T := TX2) (N := 16) hx hb hts in_X2_start_X2 hown hK hP 0 rfl rfl 0 (by decide) (hts (.fieldLink RX2 20 "WitchTrialModel" "thrown" "I") (List.mem_of_getElem? (i := 1) rfl)) (fun _ h9 => h9) rfl dX2_start_72 ?_
        refine lv_if_le (tgt := 80) hx hb dX2_start_75 (by decide) (fun c_4 => ?_) (fun c_4 => ?_)
        · exact absurd c_4 (by decide)
        · exact absurd hk (by simp [xGood, xCt, aSt, aF, bI, c_1, c_2])
      · exact absurd c_3 (by decide)
    · have c_2 : (xIn pl 4 8) = true := bI_1 c_2
      refine lv_iload hx hb dX2_start_24 (lv_at hl 0 rfl) ?_
      refine lv_if_le (tgt := 54) hx hb dX2_start_26 (by decide) (fun c_5 => ?_) (fun c_5 => ?_)
      · refine lv_iconst (v := 0) hx hb dX2_start_54 (by decide) ?_
        refine lv_istore (lv' := [(6, .int 0), (5, .int (xBits wi 8)), (0, .ref hM), (1, .int pl), (2, .int wi), (3, .int se), (4, .int gu)]) hx hb dX2_start_55 hl (by decide) rfl (fun ls hl => ?_)
        refine lv_aload_n hx hb dX2_start_57 rfl (lv_at hl 2 rfl) ?_
        refine lv_iload hx hb dX2_start_58 (lv_at hl 0 rfl) ?_
        refine lv_if_eq (tgt := 67) hx hb dX2_start_60 (by decide) (fun c_6 => ?_) (fun c_6 => ?_)
        · refine lv_iconst (v := 1) hx hb dX2_start_67 (by decide) ?_
          refine va_put (D := D) (cl := vwCl) (ci := 2) (v := .int 1) (ty := .int) (C := RX2) (T := TX2) (N := 16) hx hb hts in_X2_start_X2 tyX2 tyX2_ok nmX2 hown hK hP hD hS 0 rfl rfl 0 (by decide) (hts (.fieldLink RX2 20 "WitchTrialModel" "thrown" "I") (List.mem_of_getElem? (i := 1) rfl)) (fun _ h9 => h9) rfl (by decide +kernel) rfl rfl (Nat.le_of_ble_eq_true rfl) dX2_start_68 (fun H locs hP hD hS => ?_)
          have hP : va_P D vwCl [cM hM hO hW hY 1 a, cA cZ hO 16384 (fun w => bI (o w)), cA cI hW 8 v] H := hP
          have hD : va_D A [cM hM hO hW hY 1 a, cA cZ hO 16384 (fun w => bI (o w)), cA cI hW 8 v] := hD
          refine lv_aload_n hx hb dX2_start_71 rfl (lv_at hl 2 rfl) ?_
          refine va_get (D := D) (cl := vwCl) (ci := 2) (v := .int 1) (C := RX2) (T := TX2) (N := 16) hx hb hts in_X2_start_X2 hown hK hP 0 rfl rfl 0 (by decide) (hts (.fieldLink RX2 20 "WitchTrialModel" "thrown" "I") (List.mem_of_getElem? (i := 1) rfl)) (fun _ h9 => h9) rfl dX2_start_72 ?_
          refine lv_if_le (tgt := 80) hx hb dX2_start_75 (by decide) (fun c_7 => ?_) (fun c_7 => ?_)
          · exact absurd c_7 (by decide)
          · exact absurd hk (by simp [xGood, xCt, aSt, aF, bI, c_1, c_2, c_5])
        · exact absurd c_6 (by decide)
      · refine lv_iconst (v := 2) hx hb dX2_start_29 (by decide) ?_
        refine lv_iload hx hb dX2_start_30 (lv_at hl 0 rfl) ?_
        refine lv_imul hx hb dX2_start_32 ?_
        refine lv_iload_n hx hb dX2_start_33 rfl (lv_at hl 2 rfl) ?_
        refine lv_icmp_ge (tgt := 54) hx hb dX2_start_34 (by decide) (fun c_8 => ?_) (fun c_8 => ?_)
        · refine lv_iconst (v := 0) hx hb dX2_start_54 (by decide) ?_
          refine lv_istore (lv' := [(6, .int 0), (5, .int (xBits wi 8)), (0, .ref hM), (1, .int pl), (2, .int wi), (3, .int se), (4, .int gu)]) hx hb dX2_start_55 hl (by decide) rfl (fun ls hl => ?_)
          refine lv_aload_n hx hb dX2_start_57 rfl (lv_at hl 2 rfl) ?_
          refine lv_iload hx hb dX2_start_58 (lv_at hl 0 rfl) ?_
          refine lv_if_eq (tgt := 67) hx hb dX2_start_60 (by decide) (fun c_9 => ?_) (fun c_9 => ?_)
          · refine lv_iconst (v := 1) hx hb dX2_start_67 (by decide) ?_
            refine va_put (D := D) (cl := vwCl) (ci := 2) (v := .int 1) (ty := .int) (C := RX2) (T := TX2) (N := 16) hx hb hts in_X2_start_X2 tyX2 tyX2_ok nmX2 hown hK hP hD hS 0 rfl rfl 0 (by decide) (hts (.fieldLink RX2 20 "WitchTrialModel" "thrown" "I") (List.mem_of_getElem? (i := 1) rfl)) (fun _ h9 => h9) rfl (by decide +kernel) rfl rfl (Nat.le_of_ble_eq_true rfl) dX2_start_68 (fun H locs hP hD hS => ?_)
            have hP : va_P D vwCl [cM hM hO hW hY 1 a, cA cZ hO 16384 (fun w => bI (o w)), cA cI hW 8 v] H := hP
            have hD : va_D A [cM hM hO hW hY 1 a, cA cZ hO 16384 (fun w => bI (o w)), cA cI hW 8 v] := hD
            refine lv_aload_n hx hb dX2_start_71 rfl (lv_at hl 2 rfl) ?_
            refine va_get (D := D) (cl := vwCl) (ci := 2) (v := .int 1) (C := RX2) (T := TX2) (N := 16) hx hb hts in_X2_start_X2 hown hK hP 0 rfl rfl 0 (by decide) (hts (.fieldLink RX2 20 "WitchTrialModel" "thrown" "I") (List.mem_of_getElem? (i := 1) rfl)) (fun _ h9 => h9) rfl dX2_start_72 ?_
            refine lv_if_le (tgt := 80) hx hb dX2_start_75 (by decide) (fun c_10 => ?_) (fun c_10 => ?_)
            · exact absurd c_10 (by decide)
            · exact absurd hk (by simp [xGood, xCt, aSt, aF, bI, c_1, c_2, c_5, c_8])
          · exact absurd c_9 (by decide)
        · refine lv_iload_n hx hb dX2_start_37 rfl (lv_at hl 2 rfl) ?_
          refine lv_iload hx hb dX2_start_38 (lv_at hl 0 rfl) ?_
          refine lv_iload_n hx hb dX2_start_40 rfl (lv_at hl 3 rfl) ?_
          refine lv_iload_n hx hb dX2_start_41 rfl (lv_at hl 4 rfl) ?_
          refine lv_iload hx hb dX2_start_42 (lv_at hl 5 rfl) ?_
          refine rd_S (As := [.int pl, .int (xBits wi 8), .int wi, .int se, .int gu]) (rest := []) ⟨hx, hb, hml, hown, hts⟩ (c_X2_isWorld l D cI cZ cJ pl (xBits wi 8) wi se gu) (va_cwS 5 hts gX2_start_X2_isWorld rfl rfl rfl (by decide +kernel) ⟨Nat.le_of_ble_eq_true rfl, Nat.le_of_ble_eq_true rfl⟩) (hP.sub (ws' := []) [] rfl) hK hN rfl hl.1 rfl (Nat.le_of_ble_eq_true rfl) dX2_start_44 ⟨Nat.le_of_ble_eq_true rfl, Nat.le_of_ble_eq_true rfl⟩ ?_
          refine lv_if_eq (tgt := 54) hx hb dX2_start_47 (by decide) (fun c_11 => ?_) (fun c_11 => ?_)
          · have c_11 : (xWorld pl (xBits wi 8) wi se gu) = false := bI_0 c_11
            refine lv_iconst (v := 0) hx hb dX2_start_54 (by decide) ?_
            refine lv_istore (lv' := [(6, .int 0), (5, .int (xBits wi 8)), (0, .ref hM), (1, .int pl), (2, .int wi), (3, .int se), (4, .int gu)]) hx hb dX2_start_55 hl (by decide) rfl (fun ls hl => ?_)
            refine lv_aload_n hx hb dX2_start_57 rfl (lv_at hl 2 rfl) ?_
            refine lv_iload hx hb dX2_start_58 (lv_at hl 0 rfl) ?_
            refine lv_if_eq (tgt := 67) hx hb dX2_start_60 (by decide) (fun c_12 => ?_) (fun c_12 => ?_)
            · refine lv_iconst (v := 1) hx hb dX2_start_67 (by decide) ?_
              refine va_put (D := D) (cl := vwCl) (ci := 2) (v := .int 1) (ty := .int) (C := RX2) (T := TX2) (N := 16) hx hb hts in_X2_start_X2 tyX2 tyX2_ok nmX2 hown hK hP hD hS 0 rfl rfl 0 (by decide) (hts (.fieldLink RX2 20 "WitchTrialModel" "thrown" "I") (List.mem_of_getElem? (i := 1) rfl)) (fun _ h9 => h9) rfl (by decide +kernel) rfl rfl (Nat.le_of_ble_eq_true rfl) dX2_start_68 (fun H locs hP hD hS => ?_)
              have hP : va_P D vwCl [cM hM hO hW hY 1 a, cA cZ hO 16384 (fun w => bI (o w)), cA cI hW 8 v] H := hP
              have hD : va_D A [cM hM hO hW hY 1 a, cA cZ hO 16384 (fun w => bI (o w)), cA cI hW 8 v] := hD
              refine lv_aload_n hx hb dX2_start_71 rfl (lv_at hl 2 rfl) ?_
              refine va_get (D := D) (cl := vwCl) (ci := 2) (v := .int 1) (C := RX2) (T := TX2) (N := 16) hx hb hts in_X2_start_X2 hown hK hP 0 rfl rfl 0 (by decide) (hts (.fieldLink RX2 20 "WitchTrialModel" "thrown" "I") (List.mem_of_getElem? (i := 1) rfl)) (fun _ h9 => h9) rfl dX2_start_72 ?_
              refine lv_if_le (tgt := 80) hx hb dX2_start_75 (by decide) (fun c_13 => ?_) (fun c_13 => ?_)
              · exact absurd c_13 (by decide)
              · exact absurd hk (by simp [xGood, xCt, aSt, aF, bI, c_1, c_2, c_5, c_8, c_11])
            · exact absurd c_12 (by decide)
          · have c_11 : (xWorld pl (xBits wi 8) wi se gu) = true := bI_1 c_11
            refine lv_iconst (v := 1) hx hb dX2_start_50 (by decide) ?_
            refine lv_goto (tgt := 55) hx hb dX2_start_51 (by decide) ?_
            refine lv_istore (lv' := [(6, .int 1), (5, .int (xBits wi 8)), (0, .ref hM), (1, .int pl), (2, .int wi), (3, .int se), (4, .int gu)]) hx hb dX2_start_55 hl (by decide) rfl (fun ls hl => ?_)
            refine lv_aload_n hx hb dX2_start_57 rfl (lv_at hl 2 rfl) ?_
            refine lv_iload hx hb dX2_start_58 (lv_at hl 0 rfl) ?_
            refine lv_if_eq (tgt := 67) hx hb dX2_start_60 (by decide) (fun c_14 => ?_) (fun c_14 => ?_)
            · exact absurd c_14 (by decide)
            · refine lv_iconst (v := 0) hx hb dX2_start_63 (by decide) ?_
              refine lv_goto (tgt := 68) hx hb dX2_start_64 (by decide) ?_
              refine va_put (D := D) (cl := vwCl) (ci := 2) (v := .int 0) (ty := .int) (C := RX2) (T := TX2) (N := 16) hx hb hts in_X2_start_X2 tyX2 tyX2_ok nmX2 hown hK hP hD hS 0 rfl rfl 0 (by decide) (hts (.fieldLink RX2 20 "WitchTrialModel" "thrown" "I") (List.mem_of_getElem? (i := 1) rfl)) (fun _ h9 => h9) rfl (by decide +kernel) rfl rfl (Nat.le_of_ble_eq_true rfl) dX2_start_68 (fun H locs hP hD hS => ?_)
              have hP : va_P D vwCl [cM hM hO hW hY 0 a, cA cZ hO 16384 (fun w => bI (o w)), cA cI hW 8 v] H := hP
              have hD : va_D A [cM hM hO hW hY 0 a, cA cZ hO 16384 (fun w => bI (o w)), cA cI hW 8 v] := hD
              refine lv_aload_n hx hb dX2_start_71 rfl (lv_at hl 2 rfl) ?_
              refine va_get (D := D) (cl := vwCl) (ci := 2) (v := .int 0) (C := RX2) (T := TX2) (N := 16) hx hb hts in_X2_start_X2 hown hK hP 0 rfl rfl 0 (by decide) (hts (.fieldLink RX2 20 "WitchTrialModel" "thrown" "I") (List.mem_of_getElem? (i := 1) rfl)) (fun _ h9 => h9) rfl dX2_start_72 ?_
              refine lv_if_le (tgt := 80) hx hb dX2_start_75 (by decide) (fun c_15 => ?_) (fun c_15 => ?_)
              · refine lv_aload_n hx hb dX2_start_80 rfl (lv_at hl 2 rfl) ?_
                refine lv_iload_n hx hb dX2_start_81 rfl (lv_at hl 3 rfl) ?_
                refine va_put (D := D) (cl := vwCl) (ci := 2) (v := .int pl) (ty := .int) (C := RX2) (T := TX2) (N := 16) hx hb hts in_X2_start_X2 tyX2 tyX2_ok nmX2 hown hK hP hD hS 0 rfl rfl 2 (by decide) (hts (.fieldLink RX2 24 "WitchTrialModel" "players" "I") (List.mem_of_getElem? (i := 2) rfl)) (fun _ h9 => h9) rfl (by decide +kernel) rfl rfl (Nat.le_of_ble_eq_true rfl) dX2_start_82 (fun H locs hP hD hS => ?_)
                have hP : va_P D vwCl [cM hM hO hW hY 0 (upd a 2 pl), cA cZ hO 16384 (fun w => bI (o w)), cA cI hW 8 v] H := hP
                have hD : va_D A [cM hM hO hW hY 0 (upd a 2 pl), cA cZ hO 16384 (fun w => bI (o w)), cA cI hW 8 v] := hD
                refine lv_aload_n hx hb dX2_start_85 rfl (lv_at hl 2 rfl) ?_
                refine lv_iload_n hx hb dX2_start_86 rfl (lv_at hl 4 rfl) ?_
                refine va_put (D := D) (cl := vwCl) (ci := 2) (v := .int wi) (ty := .int) (C := RX2) (T := TX2) (N := 16) hx hb hts in_X2_start_X2 tyX2 tyX2_ok nmX2 hown hK hP hD hS 0 rfl rfl 3 (by decide) (hts (.fieldLink RX2 43 "WitchTrialModel" "witches" "I") (List.mem_of_getElem? (i := 3) rfl)) (fun _ h9 => h9) rfl (by decide +kernel) rfl rfl (Nat.le_of_ble_eq_true rfl) dX2_start_87 (fun H locs hP hD hS => ?_)
                have hP : va_P D vwCl [cM hM hO hW hY 0 (upd (upd a 2 pl) 3 wi), cA cZ hO 16384 (fun w => bI (o w)), cA cI hW 8 v] H := hP
                have hD : va_D A [cM hM hO hW hY 0 (upd (upd a 2 pl) 3 wi), cA cZ hO 16384 (fun w => bI (o w)), cA cI hW 8 v] := hD
                refine lv_aload_n hx hb dX2_start_90 rfl (lv_at hl 2 rfl) ?_
                refine lv_iload_n hx hb dX2_start_91 rfl (lv_at hl 5 rfl) ?_
                refine va_put (D := D) (cl := vwCl) (ci := 2) (v := .int se) (ty := .int) (C := RX2) (T := TX2) (N := 16) hx hb hts in_X2_start_X2 tyX2 tyX2_ok nmX2 hown hK hP hD hS 0 rfl rfl 4 (by decide) (hts (.fieldLink RX2 46 "WitchTrialModel" "seer" "I") (List.mem_of_getElem? (i := 4) rfl)) (fun _ h9 => h9) rfl (by decide +kernel) rfl rfl (Nat.le_of_ble_eq_true rfl) dX2_start_92 (fun H locs hP hD hS => ?_)
                have hP : va_P D vwCl [cM hM hO hW hY 0 (upd (upd (upd a 2 pl) 3 wi) 4 se), cA cZ hO 16384 (fun w => bI (o w)), cA cI hW 8 v] H := hP
                have hD : va_D A [cM hM hO hW hY 0 (upd (upd (upd a 2 pl) 3 wi) 4 se), cA cZ hO 16384 (fun w => bI (o w)), cA cI hW 8 v] := hD
                refine lv_aload_n hx hb dX2_start_95 rfl (lv_at hl 2 rfl) ?_
                refine lv_iload hx hb dX2_start_96 (lv_at hl 6 rfl) ?_
                refine va_put (D := D) (cl := vwCl) (ci := 2) (v := .int gu) (ty := .int) (C := RX2) (T := TX2) (N := 16) hx hb hts in_X2_start_X2 tyX2 tyX2_ok nmX2 hown hK hP hD hS 0 rfl rfl 5 (by decide) (hts (.fieldLink RX2 49 "WitchTrialModel" "guard" "I") (List.mem_of_getElem? (i := 5) rfl)) (fun _ h9 => h9) rfl (by decide +kernel) rfl rfl (Nat.le_of_ble_eq_true rfl) dX2_start_98 (fun H locs hP hD hS => ?_)
                have hP : va_P D vwCl [cM hM hO hW hY 0 (upd (upd (upd (upd a 2 pl) 3 wi) 4 se) 5 gu), cA cZ hO 16384 (fun w => bI (o w)), cA cI hW 8 v] H := hP
                have hD : va_D A [cM hM hO hW hY 0 (upd (upd (upd (upd a 2 pl) 3 wi) 4 se) 5 gu), cA cZ hO 16384 (fun w => bI (o w)), cA cI hW 8 v] := hD
                refine lv_iconst (v := 0) hx hb dX2_start_101 (by decide) ?_
                refine lv_istore (lv' := [(7, .int 0), (6, .int 1), (5, .int (xBits wi 8)), (0, .ref hM), (1, .int pl), (2, .int wi), (3, .int se), (4, .int gu)]) hx hb dX2_start_102 hl (by decide) rfl (fun ls hl => ?_)
                refine loop_M (D := D) (nL := 8) (h := 104) 16384 (fun i => [(0, .ref hM), (1, .int pl), (5, .int (xCt wi)), (7, .int (nI i))]) (fun i => [cM hM hO hW hY 0 (upd (upd (upd (upd a 2 pl) 3 wi) 4 se) 5 gu), cA cZ hO 16384 (fun w => bI ((oUp (nW pl (xCt wi)) o i) w)), cA cI hW 8 v]) (fun _ => True) (fun i hi hI ih_i H locs ls hP hD hS hl => ?_) 0 (by omega) trivial _ _ ls ?_ ?_ hS ?_
                · have hl : lv_has ls 8 [(0, .ref hM), (1, .int pl), (5, .int (xCt wi)), (7, .int (nI i))] := hl
                  have hP : va_P D vwCl [cM hM hO hW hY 0 (upd (upd (upd (upd a 2 pl) 3 wi) 4 se) 5 gu), cA cZ hO 16384 (fun w => bI ((oUp (nW pl (xCt wi)) o i) w)), cA cI hW 8 v] H := hP
                  have hD : va_D A [cM hM hO hW hY 0 (upd (upd (upd (upd a 2 pl) 3 wi) 4 se) 5 gu), cA cZ hO 16384 (fun w => bI ((oUp (nW pl (xCt wi)) o i) w)), cA cI hW 8 v] := hD
                  refine lv_iload hx hb dX2_start_104 (lv_at hl 3 rfl) ?_
                  refine lv_sipush (v := 16384) hx hb dX2_start_106 (by decide) ?_
                  refine lv_icmp_ge (tgt := 149) hx hb dX2_start_109 (by decide) (fun c_17 => ?_) (fun c_17 => ?_)
                  · have hi9 : 16384 = i := (geN hi (by omega) rfl c_17).symm
                    subst hi9
                    refine lv_aload_n hx hb dX2_start_149 rfl (lv_at hl 0 rfl) ?_
                    refine lv_iconst (v := 1) hx hb dX2_start_150 (by decide) ?_
                    refine lv_iload_n hx hb dX2_start_151 rfl (lv_at hl 1 rfl) ?_
                    refine lv_ishl hx hb dX2_start_152 ?_
                    refine lv_iconst (v := 1) hx hb dX2_start_153 (by decide) ?_
                    refine lv_isub hx hb dX2_start_154 ?_
                    refine va_put (D := D) (cl := vwCl) (ci := 2) (v := .int (((1 : Int32) <<< (pl &&& 31)) - 1)) (ty := .int) (C := RX2) (T := TX2) (N := 16) hx hb hts in_X2_start_X2 tyX2 tyX2_ok nmX2 hown hK hP hD hS 0 rfl rfl 7 (by decide) (hts (.fieldLink RX2 67 "WitchTrialModel" "alive" "I") (List.mem_of_getElem? (i := 7) rfl)) (fun _ h9 => h9) rfl (by decide +kernel) rfl rfl (Nat.le_of_ble_eq_true rfl) dX2_start_155 (fun H locs hP hD hS => ?_)
                    have hP : va_P D vwCl [cM hM hO hW hY 0 (upd (upd (upd (upd (upd a 2 pl) 3 wi) 4 se) 5 gu) 6 (((1 : Int32) <<< (pl &&& 31)) - 1)), cA cZ hO 16384 (fun w => bI ((oUp (nW pl (xCt wi)) o 16384) w)), cA cI hW 8 v] H := hP
                    have hD : va_D A [cM hM hO hW hY 0 (upd (upd (upd (upd (upd a 2 pl) 3 wi) 4 se) 5 gu) 6 (((1 : Int32) <<< (pl &&& 31)) - 1)), cA cZ hO 16384 (fun w => bI ((oUp (nW pl (xCt wi)) o 16384) w)), cA cI hW 8 v] := hD
                    refine lv_aload_n hx hb dX2_start_158 rfl (lv_at hl 0 rfl) ?_
                    refine lv_iconst (v := 1) hx hb dX2_start_159 (by decide) ?_
                    refine va_put (D := D) (cl := vwCl) (ci := 2) (v := .int 1) (ty := .int) (C := RX2) (T := TX2) (N := 16) hx hb hts in_X2_start_X2 tyX2 tyX2_ok nmX2 hown hK hP hD hS 0 rfl rfl 1 (by decide) (hts (.fieldLink RX2 70 "WitchTrialModel" "phase" "I") (List.mem_of_getElem? (i := 8) rfl)) (fun _ h9 => h9) rfl (by decide +kernel) rfl rfl (Nat.le_of_ble_eq_true rfl) dX2_start_160 (fun H locs hP hD hS => ?_)
                    have hP : va_P D vwCl [cM hM hO hW hY 0 (upd (upd (upd (upd (upd (upd a 2 pl) 3 wi) 4 se) 5 gu) 6 (((1 : Int32) <<< (pl &&& 31)) - 1)) 0 1), cA cZ hO 16384 (fun w => bI ((oUp (nW pl (xCt wi)) o 16384) w)), cA cI hW 8 v] H := hP
                    have hD : va_D A [cM hM hO hW hY 0 (upd (upd (upd (upd (upd (upd a 2 pl) 3 wi) 4 se) 5 gu) 6 (((1 : Int32) <<< (pl &&& 31)) - 1)) 0 1), cA cZ hO 16384 (fun w => bI ((oUp (nW pl (xCt wi)) o 16384) w)), cA cI hW 8 v] := hD
                    refine lv_aload_n hx hb dX2_start_163 rfl (lv_at hl 0 rfl) ?_
                    refine lv_iconst (v := 1) hx hb dX2_start_164 (by decide) ?_
                    refine va_put (D := D) (cl := vwCl) (ci := 2) (v := .int 1) (ty := .int) (C := RX2) (T := TX2) (N := 16) hx hb hts in_X2_start_X2 tyX2 tyX2_ok nmX2 hown hK hP hD hS 0 rfl rfl 8 (by decide) (hts (.fieldLink RX2 73 "WitchTrialModel" "day" "I") (List.mem_of_getElem? (i := 9) rfl)) (fun _ h9 => h9) rfl (by decide +kernel) rfl rfl (Nat.le_of_ble_eq_true rfl) dX2_start_165 (fun H locs hP hD hS => ?_)
                    have hP : va_P D vwCl [cM hM hO hW hY 0 (upd (upd (upd (upd (upd (upd (upd a 2 pl) 3 wi) 4 se) 5 gu) 6 (((1 : Int32) <<< (pl &&& 31)) - 1)) 0 1) 1 1), cA cZ hO 16384 (fun w => bI ((oUp (nW pl (xCt wi)) o 16384) w)), cA cI hW 8 v] H := hP
                    have hD : va_D A [cM hM hO hW hY 0 (upd (upd (upd (upd (upd (upd (upd a 2 pl) 3 wi) 4 se) 5 gu) 6 (((1 : Int32) <<< (pl &&& 31)) - 1)) 0 1) 1 1), cA cZ hO 16384 (fun w => bI ((oUp (nW pl (xCt wi)) o 16384) w)), cA cI hW 8 v] := hD
                    refine lv_aload_n hx hb dX2_start_168 rfl (lv_at hl 0 rfl) ?_
                    refine lv_iconst (v := 0) hx hb dX2_start_169 (by decide) ?_
                    refine va_put (D := D) (cl := vwCl) (ci := 2) (v := .int 0) (ty := .int) (C := RX2) (T := TX2) (N := 16) hx hb hts in_X2_start_X2 tyX2 tyX2_ok nmX2 hown hK hP hD hS 0 rfl rfl 9 (by decide) (hts (.fieldLink RX2 60 "WitchTrialModel" "looked" "I") (List.mem_of_getElem? (i := 10) rfl)) (fun _ h9 => h9) rfl (by decide +kernel) rfl rfl (Nat.le_of_ble_eq_true rfl) dX2_start_170 (fun H locs hP hD hS => ?_)
                    have hP : va_P D vwCl [cM hM hO hW hY 0 (upd (upd (upd (upd (upd (upd (upd (upd a 2 pl) 3 wi) 4 se) 5 gu) 6 (((1 : Int32) <<< (pl &&& 31)) - 1)) 0 1) 1 1) 7 0), cA cZ hO 16384 (fun w => bI ((oUp (nW pl (xCt wi)) o 16384) w)), cA cI hW 8 v] H := hP
                    have hD : va_D A [cM hM hO hW hY 0 (upd (upd (upd (upd (upd (upd (upd (upd a 2 pl) 3 wi) 4 se) 5 gu) 6 (((1 : Int32) <<< (pl &&& 31)) - 1)) 0 1) 1 1) 7 0), cA cZ hO 16384 (fun w => bI ((oUp (nW pl (xCt wi)) o 16384) w)), cA cI hW 8 v] := hD
                    refine lv_aload_n hx hb dX2_start_173 rfl (lv_at hl 0 rfl) ?_
                    refine lv_iconst (v := (-1)) hx hb dX2_start_174 (by decide) ?_
                    refine va_put (D := D) (cl := vwCl) (ci := 2) (v := .int (-1)) (ty := .int) (C := RX2) (T := TX2) (N := 16) hx hb hts in_X2_start_X2 tyX2 tyX2_ok nmX2 hown hK hP hD hS 0 rfl rfl 12 (by decide) (hts (.fieldLink RX2 76 "WitchTrialModel" "shieldedBefore" "I") (List.mem_of_getElem? (i := 11) rfl)) (fun _ h9 => h9) rfl (by decide +kernel) rfl rfl (Nat.le_of_ble_eq_true rfl) dX2_start_175 (fun H locs hP hD hS => ?_)
                    have hP : va_P D vwCl [cM hM hO hW hY 0 (upd (upd (upd (upd (upd (upd (upd (upd (upd a 2 pl) 3 wi) 4 se) 5 gu) 6 (((1 : Int32) <<< (pl &&& 31)) - 1)) 0 1) 1 1) 7 0) 11 (-1)), cA cZ hO 16384 (fun w => bI ((oUp (nW pl (xCt wi)) o 16384) w)), cA cI hW 8 v] H := hP
                    have hD : va_D A [cM hM hO hW hY 0 (upd (upd (upd (upd (upd (upd (upd (upd (upd a 2 pl) 3 wi) 4 se) 5 gu) 6 (((1 : Int32) <<< (pl &&& 31)) - 1)) 0 1) 1 1) 7 0) 11 (-1)), cA cZ hO 16384 (fun w => bI ((oUp (nW pl (xCt wi)) o 16384) w)), cA cI hW 8 v] := hD
                    refine lv_aload_n hx hb dX2_start_178 rfl (lv_at hl 0 rfl) ?_
                    refine mv_V (b := hM) (As := []) (rest := []) (W2 := [cM hM hO hW hY 0 (aF (upd (upd (upd (upd (upd (upd (upd (upd (upd a 2 pl) 3 wi) 4 se) 5 gu) 6 (((1 : Int32) <<< (pl &&& 31)) - 1)) 0 1) 1 1) 7 0) 11 (-1))), cA cZ hO 16384 (fun w => bI ((oUp (nW pl (xCt wi)) o 16384) w)), cA cI hW 8 (iUp vM v 8)]) ⟨hx, hb, hml, hown, hts⟩ (c_X2_forgets l D cI cZ cJ _ hM hO hW hY 0 (upd (upd (upd (upd (upd (upd (upd (upd (upd a 2 pl) 3 wi) 4 se) 5 gu) 6 (((1 : Int32) <<< (pl &&& 31)) - 1)) 0 1) 1 1) 7 0) 11 (-1)) v) (cwV 0 hts gX2_start_X2_forgets rfl rfl rfl (by decide +kernel) ⟨Nat.le_of_ble_eq_true rfl, Nat.le_of_ble_eq_true rfl⟩) hP hD hK hN hS hA (va_recv hK hP (ci := 2) (q0 := 0) rfl rfl) rfl hl.1 rfl (Nat.le_of_ble_eq_true rfl) dX2_start_179 ⟨Nat.le_of_ble_eq_true rfl, Nat.le_of_ble_eq_true rfl⟩ [0, 2] [1] rfl rfl rfl (by intro i hi; simp only [List.mem_cons, List.not_mem_nil, or_false] at hi; rcases hi with rfl <;> rfl) rfl 3 rfl (by decide) (by decide) (fun H locs hP hD hS => ?_)
                    refine lv_aload_n hx hb dX2_start_182 rfl (lv_at hl 0 rfl) ?_
                    refine rd_V (b := hM) (As := []) (rest := []) ⟨hx, hb, hml, hown, hts⟩ (c_X2_manyOpen l D cI cZ cJ hM hO hW hY 0 (aF (upd (upd (upd (upd (upd (upd (upd (upd (upd a 2 pl) 3 wi) 4 se) 5 gu) 6 (((1 : Int32) <<< (pl &&& 31)) - 1)) 0 1) 1 1) 7 0) 11 (-1))) (oUp (nW pl (xCt wi)) o 16384)) (cwV 0 hts gX2_start_X2_manyOpen rfl rfl rfl (by decide +kernel) ⟨Nat.le_of_ble_eq_true rfl, Nat.le_of_ble_eq_true rfl⟩) (hP.sub (ws' := [cM hM hO hW hY 0 (aF (upd (upd (upd (upd (upd (upd (upd (upd (upd a 2 pl) 3 wi) 4 se) 5 gu) 6 (((1 : Int32) <<< (pl &&& 31)) - 1)) 0 1) 1 1) 7 0) 11 (-1))), cA cZ hO 16384 (fun w => bI ((oUp (nW pl (xCt wi)) o 16384) w))]) [0, 1] rfl) hK hN (va_recv hK hP (ci := 2) (q0 := 0) rfl rfl) rfl hl.1 rfl (Nat.le_of_ble_eq_true rfl) dX2_start_183 ⟨Nat.le_of_ble_eq_true rfl, Nat.le_of_ble_eq_true rfl⟩ ?_
                    have hP9 : va_P D vwCl [cM hM hO hW hY 0 (aSt a pl wi se gu), cA cZ hO 16384 (fun w => bI ((oUp (nW pl (xCt wi)) o 16384) w)), cA cI hW 8 (iUp vM v 8)] H := by
                      have e9_0 : (aSt a pl wi se gu) = (aF (upd (upd (upd (upd (upd (upd (upd (upd (upd a 2 pl) 3 wi) 4 se) 5 gu) 6 (((1 : Int32) <<< (pl &&& 31)) - 1)) 0 1) 1 1) 7 0) 11 (-1))) := by (first | rfl | (simp only [xGood, xCt, aSt, aF, bI, c_1, c_2, c_5, c_8, c_11, eq_self, ↓reduceIte]; done) | (simp only [xGood, xCt, aSt, aF, bI, c_1, c_2, c_5, c_8, c_11, eq_self, ↓reduceIte]; rfl) | simp [xGood, xCt, aSt, aF, bI, c_1, c_2, c_5, c_8, c_11])
                      rw [e9_0]
                      exact hP
                    exact mi_iret hx hb hr hlocks hS (by rfl) hP9 dX2_start_186
                  · have hlt : i < 16384 := ltN hi (by omega) rfl c_17
                    refine lv_aload_n hx hb dX2_start_112 rfl (lv_at hl 0 rfl) ?_
                    refine va_get (D := D) (cl := vwCl) (ci := 2) (v := .ref hO) (C := RX2) (T := TX2) (N := 16) hx hb hts in_X2_start_X2 hown hK hP 0 rfl rfl 6 (by decide) (hts (.fieldLink RX2 7 "WitchTrialModel" "isOpen" "[Z") (List.mem_of_getElem? (i := 6) rfl)) (fun _ h9 => h9) rfl dX2_start_113 ?_
                    refine lv_iload hx hb dX2_start_116 (lv_at hl 3 rfl) ?_
                    refine lv_iload_n hx hb dX2_start_118 rfl (lv_at hl 1 rfl) ?_
                    refine lv_iload hx hb dX2_start_119 (lv_at hl 2 rfl) ?_
                    refine lv_iload hx hb dX2_start_121 (lv_at hl 3 rfl) ?_
                    refine lv_bipush (v := 64) hx hb dX2_start_123 (by decide) ?_
                    refine lv_idiv hx hb dX2_start_125 (by decide) ?_
                    refine lv_iload hx hb dX2_start_126 (lv_at hl 3 rfl) ?_
                    refine lv_bipush (v := 8) hx hb dX2_start_128 (by decide) ?_
                    refine lv_idiv hx hb dX2_start_130 (by decide) ?_
                    refine lv_bipush (v := 8) hx hb dX2_start_131 (by decide) ?_
                    refine lv_irem hx hb dX2_start_133 (by decide) ?_
                    refine lv_iload hx hb dX2_start_134 (lv_at hl 3 rfl) ?_
                    refine lv_bipush (v := 8) hx hb dX2_start_136 (by decide) ?_
                    refine lv_irem hx hb dX2_start_138 (by decide) ?_
                    refine rd_S (As := [.int pl, .int (xCt wi), .int ((nI i) / 64), .int (((nI i) / 8) - ((nI i) / 8) / 8 * 8), .int ((nI i) - (nI i) / 8 * 8)]) (rest := [.int (nI i), .ref hO]) ⟨hx, hb, hml, hown, hts⟩ (c_X2_isWorld l D cI cZ cJ pl (xCt wi) ((nI i) / 64) (((nI i) / 8) - ((nI i) / 8) / 8 * 8) ((nI i) - (nI i) / 8 * 8)) (va_cwS 5 hts gX2_start_X2_isWorld rfl rfl rfl (by decide +kernel) ⟨Nat.le_of_ble_eq_true rfl, Nat.le_of_ble_eq_true rfl⟩) (hP.sub (ws' := []) [] rfl) hK hN rfl hl.1 rfl (Nat.le_of_ble_eq_true rfl) dX2_start_139 ⟨Nat.le_of_ble_eq_true rfl, Nat.le_of_ble_eq_true rfl⟩ ?_
                    refine q_zast (D := D) (j := i) hx hb hK hP hD hS 1 1 rfl rfl (by omega) (Nat.le_of_ble_eq_true rfl) dX2_start_142 (fun H locs hP hD hS => ?_)
                    have hP : va_P D vwCl [cM hM hO hW hY 0 (upd (upd (upd (upd a 2 pl) 3 wi) 4 se) 5 gu), cA cZ hO 16384 (upd (fun w => bI ((oUp (nW pl (xCt wi)) o i) w)) i (vp_nar .boolean (bI (xWorld pl (xCt wi) ((nI i) / 64) (((nI i) / 8) - ((nI i) / 8) / 8 * 8) ((nI i) - (nI i) / 8 * 8))))), cA cI hW 8 v] H := hP
                    have hD : va_D A [cM hM hO hW hY 0 (upd (upd (upd (upd a 2 pl) 3 wi) 4 se) 5 gu), cA cZ hO 16384 (upd (fun w => bI ((oUp (nW pl (xCt wi)) o i) w)) i (vp_nar .boolean (bI (xWorld pl (xCt wi) ((nI i) / 64) (((nI i) / 8) - ((nI i) / 8) / 8 * 8) ((nI i) - (nI i) / 8 * 8))))), cA cI hW 8 v] := hD
                    refine lv_iinc (v := (nI (i + 1))) (lv' := [(7, .int (nI (i + 1))), (0, .ref hM), (1, .int pl), (5, .int (xCt wi))]) hx hb dX2_start_143 hl (k := 3) rfl (nI_1 i) (by decide) rfl (fun ls hl => ?_)
                    refine lv_goto (tgt := 104) hx hb dX2_start_146 (by decide) ?_
                    have ew_0 : (fun w => bI ((oUp (nW pl (xCt wi)) o (i + 1)) w)) = (upd (fun w => bI ((oUp (nW pl (xCt wi)) o i) w)) i (vp_nar .boolean (bI (xWorld pl (xCt wi) ((nI i) / 64) (((nI i) / 8) - ((nI i) / 8) / 8 * 8) ((nI i) - (nI i) / 8 * 8))))) := by exact oUp_step rfl
                    exact ih_i (by omega) trivial _ _ ls (by show va_P D vwCl [cM hM hO hW hY 0 (upd (upd (upd (upd a 2 pl) 3 wi) 4 se) 5 gu), cA cZ hO 16384 (fun w => bI ((oUp (nW pl (xCt wi)) o (i + 1)) w)), cA cI hW 8 v] _; rw [ew_0]; exact hP) (by show va_D A [cM hM hO hW hY 0 (upd (upd (upd (upd a 2 pl) 3 wi) 4 se) 5 gu), cA cZ hO 16384 (fun w => bI ((oUp (nW pl (xCt wi)) o (i + 1)) w)), cA cI hW 8 v]; rw [ew_0]; exact hD) hS (by show lv_has ls 8 [(0, .ref hM), (1, .int pl), (5, .int (xCt wi)), (7, .int (nI (i + 1)))]; exact lv_sub hl [1, 2, 3, 0] rfl)
                · show va_P D vwCl [cM hM hO hW hY 0 (upd (upd (upd (upd a 2 pl) 3 wi) 4 se) 5 gu), cA cZ hO 16384 (fun w => bI ((oUp (nW pl (xCt wi)) o 0) w)), cA cI hW 8 v] _
                  have ez_0 : (fun w => bI ((oUp (nW pl (xCt wi)) o 0) w)) = (fun w => bI (o w)) := by rw [oUp_0]
                  rw [ez_0]
                  exact hP
                · show va_D A [cM hM hO hW hY 0 (upd (upd (upd (upd a 2 pl) 3 wi) 4 se) 5 gu), cA cZ hO 16384 (fun w => bI ((oUp (nW pl (xCt wi)) o 0) w)), cA cI hW 8 v]
                  have ez_0 : (fun w => bI ((oUp (nW pl (xCt wi)) o 0) w)) = (fun w => bI (o w)) := by rw [oUp_0]
                  rw [ez_0]
                  exact hD
                · show lv_has ls 8 [(0, .ref hM), (1, .int pl), (5, .int (xCt wi)), (7, .int (nI 0))]
                  have en_0 : (xCt wi) = (xBits wi 8) := by simp [xCt, c_1, c_2, c_5, c_8, c_11]
                  rw [en_0]
                  have en_1 : (nI 0) = 0 := by exact nI_0
                  rw [en_1]
                  exact lv_sub hl [3, 4, 2, 0] rfl
              · exact absurd c_15 (by decide)
  · refine lv_iconst (v := 0) hx hb dX2_start_4 (by decide) ?_
    refine lv_goto (tgt := 12) hx hb dX2_start_5 (by decide) ?_
    refine lv_istore (lv' := [(5, .int 0), (0, .ref hM), (1, .int pl), (2, .int wi), (3, .int se), (4, .int gu)]) hx hb dX2_start_12 hl (by decide) rfl (fun ls hl => ?_)
    refine lv_iload_n hx hb dX2_start_14 rfl (lv_at hl 2 rfl) ?_
    refine lv_iconst (v := 4) hx hb dX2_start_15 (by decide) ?_
    refine lv_bipush (v := 8) hx hb dX2_start_16 (by decide) ?_
    refine rd_S (As := [.int pl, .int 4, .int 8]) (rest := []) ⟨hx, hb, hml, hown, hts⟩ (c_X2_in l D cI cZ cJ pl 4 8) (va_cwS 3 hts gX2_start_X2_in rfl rfl rfl (by decide +kernel) ⟨Nat.le_of_ble_eq_true rfl, Nat.le_of_ble_eq_true rfl⟩) (hP.sub (ws' := []) [] rfl) hK hN rfl hl.1 rfl (Nat.le_of_ble_eq_true rfl) dX2_start_18 ⟨Nat.le_of_ble_eq_true rfl, Nat.le_of_ble_eq_true rfl⟩ ?_
    refine lv_if_eq (tgt := 54) hx hb dX2_start_21 (by decide) (fun c_18 => ?_) (fun c_18 => ?_)
    · have c_18 : (xIn pl 4 8) = false := bI_0 c_18
      refine lv_iconst (v := 0) hx hb dX2_start_54 (by decide) ?_
      refine lv_istore (lv' := [(6, .int 0), (5, .int 0), (0, .ref hM), (1, .int pl), (2, .int wi), (3, .int se), (4, .int gu)]) hx hb dX2_start_55 hl (by decide) rfl (fun ls hl => ?_)
      refine lv_aload_n hx hb dX2_start_57 rfl (lv_at hl 2 rfl) ?_
      refine lv_iload hx hb dX2_start_58 (lv_at hl 0 rfl) ?_
      refine lv_if_eq (tgt := 67) hx hb dX2_start_60 (by decide) (fun c_19 => ?_) (fun c_19 => ?_)
      · refine lv_iconst (v := 1) hx hb dX2_start_67 (by decide) ?_
        refine va_put (D := D) (cl := vwCl) (ci := 2) (v := .int 1) (ty := .int) (C := RX2) (T := TX2) (N := 16) hx hb hts in_X2_start_X2 tyX2 tyX2_ok nmX2 hown hK hP hD hS 0 rfl rfl 0 (by decide) (hts (.fieldLink RX2 20 "WitchTrialModel" "thrown" "I") (List.mem_of_getElem? (i := 1) rfl)) (fun _ h9 => h9) rfl (by decide +kernel) rfl rfl (Nat.le_of_ble_eq_true rfl) dX2_start_68 (fun H locs hP hD hS => ?_)
        have hP : va_P D vwCl [cM hM hO hW hY 1 a, cA cZ hO 16384 (fun w => bI (o w)), cA cI hW 8 v] H := hP
        have hD : va_D A [cM hM hO hW hY 1 a, cA cZ hO 16384 (fun w => bI (o w)), cA cI hW 8 v] := hD
        refine lv_aload_n hx hb dX2_start_71 rfl (lv_at hl 2 rfl) ?_
        refine va_get (D := D) (cl := vwCl) (ci := 2) (v := .int 1) (C := RX2) (T := TX2) (N := 16) hx hb hts in_X2_start_X2 hown hK hP 0 rfl rfl 0 (by decide) (hts (.fieldLink RX2 20 "WitchTrialModel" "thrown" "I") (List.mem_of_getElem? (i := 1) rfl)) (fun _ h9 => h9) rfl dX2_start_72 ?_
        refine lv_if_le (tgt := 80) hx hb dX2_start_75 (by decide) (fun c_20 => ?_) (fun c_20 => ?_)
        · exact absurd c_20 (by decide)
        · exact absurd hk (by simp [xGood, xCt, aSt, aF, bI, c_1, c_18])
      · exact absurd c_19 (by decide)
    · have c_18 : (xIn pl 4 8) = true := bI_1 c_18
      refine lv_iload hx hb dX2_start_24 (lv_at hl 0 rfl) ?_
      refine lv_if_le (tgt := 54) hx hb dX2_start_26 (by decide) (fun c_21 => ?_) (fun c_21 => ?_)
      · refine lv_iconst (v := 0) hx hb dX2_start_54 (by decide) ?_
        refine lv_istore (lv' := [(6, .int 0), (5, .int 0), (0, .ref hM), (1, .int pl), (2, .int wi), (3, .int se), (4, .int gu)]) hx hb dX2_start_55 hl (by decide) rfl (fun ls hl => ?_)
        refine lv_aload_n hx hb dX2_start_57 rfl (lv_at hl 2 rfl) ?_
        refine lv_iload hx hb dX2_start_58 (lv_at hl 0 rfl) ?_
        refine lv_if_eq (tgt := 67) hx hb dX2_start_60 (by decide) (fun c_22 => ?_) (fun c_22 => ?_)
        · refine lv_iconst (v := 1) hx hb dX2_start_67 (by decide) ?_
          refine va_put (D := D) (cl := vwCl) (ci := 2) (v := .int 1) (ty := .int) (C := RX2) (T := TX2) (N := 16) hx hb hts in_X2_start_X2 tyX2 tyX2_ok nmX2 hown hK hP hD hS 0 rfl rfl 0 (by decide) (hts (.fieldLink RX2 20 "WitchTrialModel" "thrown" "I") (List.mem_of_getElem? (i := 1) rfl)) (fun _ h9 => h9) rfl (by decide +kernel) rfl rfl (Nat.le_of_ble_eq_true rfl) dX2_start_68 (fun H locs hP hD hS => ?_)
          have hP : va_P D vwCl [cM hM hO hW hY 1 a, cA cZ hO 16384 (fun w => bI (o w)), cA cI hW 8 v] H := hP
          have hD : va_D A [cM hM hO hW hY 1 a, cA cZ hO 16384 (fun w => bI (o w)), cA cI hW 8 v] := hD
          refine lv_aload_n hx hb dX2_start_71 rfl (lv_at hl 2 rfl) ?_
          refine va_get (D := D) (cl := vwCl) (ci := 2) (v := .int 1) (C := RX2) (T := TX2) (N := 16) hx hb hts in_X2_start_X2 hown hK hP 0 rfl rfl 0 (by decide) (hts (.fieldLink RX2 20 "WitchTrialModel" "thrown" "I") (List.mem_of_getElem? (i := 1) rfl)) (fun _ h9 => h9) rfl dX2_start_72 ?_
          refine lv_if_le (tgt := 80) hx hb dX2_start_75 (by decide) (fun c_23 => ?_) (fun c_23 => ?_)
          · exact absurd c_23 (by decide)
          · exact absurd hk (by simp [xGood, xCt, aSt, aF, bI, c_1, c_18])
        · exact absurd c_22 (by decide)
      · exact absurd c_21 (by decide)

set_option maxHeartbeats 2000000 in
set_option maxRecDepth 100000 in
theorem f_X2_start (l : Launch) (D : va_G) (cI cZ cJ : ClassId) (sz : Nat) (hM : Nat) (hO : Nat) (hW : Nat) (hY : Nat) (th : Int32) (a : Nat → Int32) (pl : Int32) (wi : Int32) (se : Int32) (gu : Int32) (hk : xGood pl wi se gu = false) : Mi l D cI cZ cJ yX2_start wsX2_start 2 47 sz [.ref hM, .int pl, .int wi, .int se, .int gu] [cM hM hO hW hY th a] [cM hM hO hW hY 1 a] (0) := by
  refine mi_of (by decide) rfl (Nat.le_of_ble_eq_true rfl) (fun p e s m below meth c ls A hx hb hr hml hts hown hlocks hin hP hK hN hD hA hS hl => ?_)
  have hl : lv_has ls 8 [(0, .ref hM), (1, .int pl), (2, .int wi), (3, .int se), (4, .int gu)] := hl
  refine lv_iload_n hx hb dX2_start_0 rfl (lv_at hl 2 rfl) ?_
  refine lv_if_ge (tgt := 8) hx hb dX2_start_1 (by decide) (fun c_1 => ?_) (fun c_1 => ?_)
  · refine lv_iload_n hx hb dX2_start_8 rfl (lv_at hl 2 rfl) ?_
    refine rd_S (As := [.int wi]) (rest := []) ⟨hx, hb, hml, hown, hts⟩ (c_X2_bits l D cI cZ cJ wi) (va_cwS 1 hts gX2_start_X2_bits rfl rfl rfl (by decide +kernel) ⟨Nat.le_of_ble_eq_true rfl, Nat.le_of_ble_eq_true rfl⟩) (hP.sub (ws' := []) [] rfl) hK hN rfl hl.1 rfl (Nat.le_of_ble_eq_true rfl) dX2_start_9 ⟨Nat.le_of_ble_eq_true rfl, Nat.le_of_ble_eq_true rfl⟩ ?_
    refine lv_istore (lv' := [(5, .int (xBits wi 8)), (0, .ref hM), (1, .int pl), (2, .int wi), (3, .int se), (4, .int gu)]) hx hb dX2_start_12 hl (by decide) rfl (fun ls hl => ?_)
    refine lv_iload_n hx hb dX2_start_14 rfl (lv_at hl 2 rfl) ?_
    refine lv_iconst (v := 4) hx hb dX2_start_15 (by decide) ?_
    refine lv_bipush (v := 8) hx hb dX2_start_16 (by decide) ?_
    refine rd_S (As := [.int pl, .int 4, .int 8]) (rest := []) ⟨hx, hb, hml, hown, hts⟩ (c_X2_in l D cI cZ cJ pl 4 8) (va_cwS 3 hts gX2_start_X2_in rfl rfl rfl (by decide +kernel) ⟨Nat.le_of_ble_eq_true rfl, Nat.le_of_ble_eq_true rfl⟩) (hP.sub (ws' := []) [] rfl) hK hN rfl hl.1 rfl (Nat.le_of_ble_eq_true rfl) dX2_start_18 ⟨Nat.le_of_ble_eq_true rfl, Nat.le_of_ble_eq_true rfl⟩ ?_
    refine lv_if_eq (tgt := 54) hx hb dX2_start_21 (by decide) (fun c_2 => ?_) (fun c_2 => ?_)
    · have c_2 : (xIn pl 4 8) = false := bI_0 c_2
      refine lv_iconst (v := 0) hx hb dX2_start_54 (by decide) ?_
      refine lv_istore (lv' := [(6, .int 0), (5, .int (xBits wi 8)), (0, .ref hM), (1, .int pl), (2, .int wi), (3, .int se), (4, .int gu)]) hx hb dX2_start_55 hl (by decide) rfl (fun ls hl => ?_)
      refine lv_aload_n hx hb dX2_start_57 rfl (lv_at hl 2 rfl) ?_
      refine lv_iload hx hb dX2_start_58 (lv_at hl 0 rfl) ?_
      refine lv_if_eq (tgt := 67) hx hb dX2_start_60 (by decide) (fun c_3 => ?_) (fun c_3 => ?_)
      · refine lv_iconst (v := 1) hx hb dX2_start_67 (by decide) ?_
        refine va_put (D := D) (cl := vwCl) (ci := 2) (v := .int 1) (ty := .int) (C := RX2) (T := TX2) (N := 16) hx hb hts in_X2_start_X2 tyX2 tyX2_ok nmX2 hown hK hP hD hS 0 rfl rfl 0 (by decide) (hts (.fieldLink RX2 20 "WitchTrialModel" "thrown" "I") (List.mem_of_getElem? (i := 1) rfl)) (fun _ h9 => h9) rfl (by decide +kernel) rfl rfl (Nat.le_of_ble_eq_true rfl) dX2_start_68 (fun H locs hP hD hS => ?_)
        have hP : va_P D vwCl [cM hM hO hW hY 1 a] H := hP
        have hD : va_D A [cM hM hO hW hY 1 a] := hD
        refine lv_aload_n hx hb dX2_start_71 rfl (lv_at hl 2 rfl) ?_
        refine va_get (D := D) (cl := vwCl) (ci := 2) (v := .int 1) (C := RX2) (T := TX2) (N := 16) hx hb hts in_X2_start_X2 hown hK hP 0 rfl rfl 0 (by decide) (hts (.fieldLink RX2 20 "WitchTrialModel" "thrown" "I") (List.mem_of_getElem? (i := 1) rfl)) (fun _ h9 => h9) rfl dX2_start_72 ?_
        refine lv_if_le (tgt := 80) hx hb dX2_start_75 (by decide) (fun c_4 => ?_) (fun c_4 => ?_)
        · exact absurd c_4 (by decide)
        · refine lv_iconst (v := 0) hx hb dX2_start_78 (by decide) ?_
          have hP9 : va_P D vwCl [cM hM hO hW hY 1 a] H := by
            exact hP
          exact mi_iret hx hb hr hlocks hS (by rfl) hP9 dX2_start_79
      · exact absurd c_3 (by decide)
    · have c_2 : (xIn pl 4 8) = true := bI_1 c_2
      refine lv_iload hx hb dX2_start_24 (lv_at hl 0 rfl) ?_
      refine lv_if_le (tgt := 54) hx hb dX2_start_26 (by decide) (fun c_5 => ?_) (fun c_5 => ?_)
      · refine lv_iconst (v := 0) hx hb dX2_start_54 (by decide) ?_
        refine lv_istore (lv' := [(6, .int 0), (5, .int (xBits wi 8)), (0, .ref hM), (1, .int pl), (2, .int wi), (3, .int se), (4, .int gu)]) hx hb dX2_start_55 hl (by decide) rfl (fun ls hl => ?_)
        refine lv_aload_n hx hb dX2_start_57 rfl (lv_at hl 2 rfl) ?_
        refine lv_iload hx hb dX2_start_58 (lv_at hl 0 rfl) ?_
        refine lv_if_eq (tgt := 67) hx hb dX2_start_60 (by decide) (fun c_6 => ?_) (fun c_6 => ?_)
        · refine lv_iconst (v := 1) hx hb dX2_start_67 (by decide) ?_
          refine va_put (D := D) (cl := vwCl) (ci := 2) (v := .int 1) (ty := .int) (C := RX2) (T := TX2) (N := 16) hx hb hts in_X2_start_X2 tyX2 tyX2_ok nmX2 hown hK hP hD hS 0 rfl rfl 0 (by decide) (hts (.fieldLink RX2 20 "WitchTrialModel" "thrown" "I") (List.mem_of_getElem? (i := 1) rfl)) (fun _ h9 => h9) rfl (by decide +kernel) rfl rfl (Nat.le_of_ble_eq_true rfl) dX2_start_68 (fun H locs hP hD hS => ?_)
          have hP : va_P D vwCl [cM hM hO hW hY 1 a] H := hP
          have hD : va_D A [cM hM hO hW hY 1 a] := hD
          refine lv_aload_n hx hb dX2_start_71 rfl (lv_at hl 2 rfl) ?_
          refine va_get (D := D) (cl := vwCl) (ci := 2) (v := .int 1) (C := RX2) (T := TX2) (N := 16) hx hb hts in_X2_start_X2 hown hK hP 0 rfl rfl 0 (by decide) (hts (.fieldLink RX2 20 "WitchTrialModel" "thrown" "I") (List.mem_of_getElem? (i := 1) rfl)) (fun _ h9 => h9) rfl dX2_start_72 ?_
          refine lv_if_le (tgt := 80) hx hb dX2_start_75 (by decide) (fun c_7 => ?_) (fun c_7 => ?_)
          · exact absurd c_7 (by decide)
          · refine lv_iconst (v := 0) hx hb dX2_start_78 (by decide) ?_
            have hP9 : va_P D vwCl [cM hM hO hW hY 1 a] H := by
              exact hP
            exact mi_iret hx hb hr hlocks hS (by rfl) hP9 dX2_start_79
        · exact absurd c_6 (by decide)
      · refine lv_iconst (v := 2) hx hb dX2_start_29 (by decide) ?_
        refine lv_iload hx hb dX2_start_30 (lv_at hl 0 rfl) ?_
        refine lv_imul hx hb dX2_start_32 ?_
        refine lv_iload_n hx hb dX2_start_33 rfl (lv_at hl 2 rfl) ?_
        refine lv_icmp_ge (tgt := 54) hx hb dX2_start_34 (by decide) (fun c_8 => ?_) (fun c_8 => ?_)
        · refine lv_iconst (v := 0) hx hb dX2_start_54 (by decide) ?_
          refine lv_istore (lv' := [(6, .int 0), (5, .int (xBits wi 8)), (0, .ref hM), (1, .int pl), (2, .int wi), (3, .int se), (4, .int gu)]) hx hb dX2_start_55 hl (by decide) rfl (fun ls hl => ?_)
          refine lv_aload_n hx hb dX2_start_57 rfl (lv_at hl 2 rfl) ?_
          refine lv_iload hx hb dX2_start_58 (lv_at hl 0 rfl) ?_
          refine lv_if_eq (tgt := 67) hx hb dX2_start_60 (by decide) (fun c_9 => ?_) (fun c_9 => ?_)
          · refine lv_iconst (v := 1) hx hb dX2_start_67 (by decide) ?_
            refine va_put (D := D) (cl := vwCl) (ci := 2) (v := .int 1) (ty := .int) (C := RX2) (T := TX2) (N := 16) hx hb hts in_X2_start_X2 tyX2 tyX2_ok nmX2 hown hK hP hD hS 0 rfl rfl 0 (by decide) (hts (.fieldLink RX2 20 "WitchTrialModel" "thrown" "I") (List.mem_of_getElem? (i := 1) rfl)) (fun _ h9 => h9) rfl (by decide +kernel) rfl rfl (Nat.le_of_ble_eq_true rfl) dX2_start_68 (fun H locs hP hD hS => ?_)
            have hP : va_P D vwCl [cM hM hO hW hY 1 a] H := hP
            have hD : va_D A [cM hM hO hW hY 1 a] := hD
            refine lv_aload_n hx hb dX2_start_71 rfl (lv_at hl 2 rfl) ?_
            refine va_get (D := D) (cl := vwCl) (ci := 2) (v := .int 1) (C := RX2) (T := TX2) (N := 16) hx hb hts in_X2_start_X2 hown hK hP 0 rfl rfl 0 (by decide) (hts (.fieldLink RX2 20 "WitchTrialModel" "thrown" "I") (List.mem_of_getElem? (i := 1) rfl)) (fun _ h9 => h9) rfl dX2_start_72 ?_
            refine lv_if_le (tgt := 80) hx hb dX2_start_75 (by decide) (fun c_10 => ?_) (fun c_10 => ?_)
            · exact absurd c_10 (by decide)
            · refine lv_iconst (v := 0) hx hb dX2_start_78 (by decide) ?_
              have hP9 : va_P D vwCl [cM hM hO hW hY 1 a] H := by
                exact hP
              exact mi_iret hx hb hr hlocks hS (by rfl) hP9 dX2_start_79
          · exact absurd c_9 (by decide)
        · refine lv_iload_n hx hb dX2_start_37 rfl (lv_at hl 2 rfl) ?_
          refine lv_iload hx hb dX2_start_38 (lv_at hl 0 rfl) ?_
          refine lv_iload_n hx hb dX2_start_40 rfl (lv_at hl 3 rfl) ?_
          refine lv_iload_n hx hb dX2_start_41 rfl (lv_at hl 4 rfl) ?_
          refine lv_iload hx hb dX2_start_42 (lv_at hl 5 rfl) ?_
          refine rd_S (As := [.int pl, .int (xBits wi 8), .int wi, .int se, .int gu]) (rest := []) ⟨hx, hb, hml, hown, hts⟩ (c_X2_isWorld l D cI cZ cJ pl (xBits wi 8) wi se gu) (va_cwS 5 hts gX2_start_X2_isWorld rfl rfl rfl (by decide +kernel) ⟨Nat.le_of_ble_eq_true rfl, Nat.le_of_ble_eq_true rfl⟩) (hP.sub (ws' := []) [] rfl) hK hN rfl hl.1 rfl (Nat.le_of_ble_eq_true rfl) dX2_start_44 ⟨Nat.le_of_ble_eq_true rfl, Nat.le_of_ble_eq_true rfl⟩ ?_
          refine lv_if_eq (tgt := 54) hx hb dX2_start_47 (by decide) (fun c_11 => ?_) (fun c_11 => ?_)
          · have c_11 : (xWorld pl (xBits wi 8) wi se gu) = false := bI_0 c_11
            refine lv_iconst (v := 0) hx hb dX2_start_54 (by decide) ?_
            refine lv_istore (lv' := [(6, .int 0), (5, .int (xBits wi 8)), (0, .ref hM), (1, .int pl), (2, .int wi), (3, .int se), (4, .int gu)]) hx hb dX2_start_55 hl (by decide) rfl (fun ls hl => ?_)
            refine lv_aload_n hx hb dX2_start_57 rfl (lv_at hl 2 rfl) ?_
            refine lv_iload hx hb dX2_start_58 (lv_at hl 0 rfl) ?_
            refine lv_if_eq (tgt := 67) hx hb dX2_start_60 (by decide) (fun c_12 => ?_) (fun c_12 => ?_)
            · refine lv_iconst (v := 1) hx hb dX2_start_67 (by decide) ?_
              refine va_put (D := D) (cl := vwCl) (ci := 2) (v := .int 1) (ty := .int) (C := RX2) (T := TX2) (N := 16) hx hb hts in_X2_start_X2 tyX2 tyX2_ok nmX2 hown hK hP hD hS 0 rfl rfl 0 (by decide) (hts (.fieldLink RX2 20 "WitchTrialModel" "thrown" "I") (List.mem_of_getElem? (i := 1) rfl)) (fun _ h9 => h9) rfl (by decide +kernel) rfl rfl (Nat.le_of_ble_eq_true rfl) dX2_start_68 (fun H locs hP hD hS => ?_)
              have hP : va_P D vwCl [cM hM hO hW hY 1 a] H := hP
              have hD : va_D A [cM hM hO hW hY 1 a] := hD
              refine lv_aload_n hx hb dX2_start_71 rfl (lv_at hl 2 rfl) ?_
              refine va_get (D := D) (cl := vwCl) (ci := 2) (v := .int 1) (C := RX2) (T := TX2) (N := 16) hx hb hts in_X2_start_X2 hown hK hP 0 rfl rfl 0 (by decide) (hts (.fieldLink RX2 20 "WitchTrialModel" "thrown" "I") (List.mem_of_getElem? (i := 1) rfl)) (fun _ h9 => h9) rfl dX2_start_72 ?_
              refine lv_if_le (tgt := 80) hx hb dX2_start_75 (by decide) (fun c_13 => ?_) (fun c_13 => ?_)
              · exact absurd c_13 (by decide)
              · refine lv_iconst (v := 0) hx hb dX2_start_78 (by decide) ?_
                have hP9 : va_P D vwCl [cM hM hO hW hY 1 a] H := by
                  exact hP
                exact mi_iret hx hb hr hlocks hS (by rfl) hP9 dX2_start_79
            · exact absurd c_12 (by decide)
          · have c_11 : (xWorld pl (xBits wi 8) wi se gu) = true := bI_1 c_11
            refine lv_iconst (v := 1) hx hb dX2_start_50 (by decide) ?_
            refine lv_goto (tgt := 55) hx hb dX2_start_51 (by decide) ?_
            refine lv_istore (lv' := [(6, .int 1), (5, .int (xBits wi 8)), (0, .ref hM), (1, .int pl), (2, .int wi), (3, .int se), (4, .int gu)]) hx hb dX2_start_55 hl (by decide) rfl (fun ls hl => ?_)
            refine lv_aload_n hx hb dX2_start_57 rfl (lv_at hl 2 rfl) ?_
            refine lv_iload hx hb dX2_start_58 (lv_at hl 0 rfl) ?_
            refine lv_if_eq (tgt := 67) hx hb dX2_start_60 (by decide) (fun c_14 => ?_) (fun c_14 => ?_)
            · exact absurd c_14 (by decide)
            · refine lv_iconst (v := 0) hx hb dX2_start_63 (by decide) ?_
              refine lv_goto (tgt := 68) hx hb dX2_start_64 (by decide) ?_
              refine va_put (D := D) (cl := vwCl) (ci := 2) (v := .int 0) (ty := .int) (C := RX2) (T := TX2) (N := 16) hx hb hts in_X2_start_X2 tyX2 tyX2_ok nmX2 hown hK hP hD hS 0 rfl rfl 0 (by decide) (hts (.fieldLink RX2 20 "WitchTrialModel" "thrown" "I") (List.mem_of_getElem? (i := 1) rfl)) (fun _ h9 => h9) rfl (by decide +kernel) rfl rfl (Nat.le_of_ble_eq_true rfl) dX2_start_68 (fun H locs hP hD hS => ?_)
              have hP : va_P D vwCl [cM hM hO hW hY 0 a] H := hP
              have hD : va_D A [cM hM hO hW hY 0 a] := hD
              refine lv_aload_n hx hb dX2_start_71 rfl (lv_at hl 2 rfl) ?_
              refine va_get (D := D) (cl := vwCl) (ci := 2) (v := .int 0) (C := RX2) (T := TX2) (N := 16) hx hb hts in_X2_start_X2 hown hK hP 0 rfl rfl 0 (by decide) (hts (.fieldLink RX2 20 "WitchTrialModel" "thrown" "I") (List.mem_of_getElem? (i := 1) rfl)) (fun _ h9 => h9) rfl dX2_start_72 ?_
              refine lv_if_le (tgt := 80) hx hb dX2_start_75 (by decide) (fun c_15 => ?_) (fun c_15 => ?_)
              · exact absurd hk (by simp [xGood, xCt, bI, c_1, c_2, c_5, c_8, c_11])
              · exact absurd c_15 (by decide)
  · refine lv_iconst (v := 0) hx hb dX2_start_4 (by decide) ?_
    refine lv_goto (tgt := 12) hx hb dX2_start_5 (by decide) ?_
    refine lv_istore (lv' := [(5, .int 0), (0, .ref hM), (1, .int pl), (2, .int wi), (3, .int se), (4, .int gu)]) hx hb dX2_start_12 hl (by decide) rfl (fun ls hl => ?_)
    refine lv_iload_n hx hb dX2_start_14 rfl (lv_at hl 2 rfl) ?_
    refine lv_iconst (v := 4) hx hb dX2_start_15 (by decide) ?_
    refine lv_bipush (v := 8) hx hb dX2_start_16 (by decide) ?_
    refine rd_S (As := [.int pl, .int 4, .int 8]) (rest := []) ⟨hx, hb, hml, hown, hts⟩ (c_X2_in l D cI cZ cJ pl 4 8) (va_cwS 3 hts gX2_start_X2_in rfl rfl rfl (by decide +kernel) ⟨Nat.le_of_ble_eq_true rfl, Nat.le_of_ble_eq_true rfl⟩) (hP.sub (ws' := []) [] rfl) hK hN rfl hl.1 rfl (Nat.le_of_ble_eq_true rfl) dX2_start_18 ⟨Nat.le_of_ble_eq_true rfl, Nat.le_of_ble_eq_true rfl⟩ ?_
    refine lv_if_eq (tgt := 54) hx hb dX2_start_21 (by decide) (fun c_16 => ?_) (fun c_16 => ?_)
    · have c_16 : (xIn pl 4 8) = false := bI_0 c_16
      refine lv_iconst (v := 0) hx hb dX2_start_54 (by decide) ?_
      refine lv_istore (lv' := [(6, .int 0), (5, .int 0), (0, .ref hM), (1, .int pl), (2, .int wi), (3, .int se), (4, .int gu)]) hx hb dX2_start_55 hl (by decide) rfl (fun ls hl => ?_)
      refine lv_aload_n hx hb dX2_start_57 rfl (lv_at hl 2 rfl) ?_
      refine lv_iload hx hb dX2_start_58 (lv_at hl 0 rfl) ?_
      refine lv_if_eq (tgt := 67) hx hb dX2_start_60 (by decide) (fun c_17 => ?_) (fun c_17 => ?_)
      · refine lv_iconst (v := 1) hx hb dX2_start_67 (by decide) ?_
        refine va_put (D := D) (cl := vwCl) (ci := 2) (v := .int 1) (ty := .int) (C := RX2) (T := TX2) (N := 16) hx hb hts in_X2_start_X2 tyX2 tyX2_ok nmX2 hown hK hP hD hS 0 rfl rfl 0 (by decide) (hts (.fieldLink RX2 20 "WitchTrialModel" "thrown" "I") (List.mem_of_getElem? (i := 1) rfl)) (fun _ h9 => h9) rfl (by decide +kernel) rfl rfl (Nat.le_of_ble_eq_true rfl) dX2_start_68 (fun H locs hP hD hS => ?_)
        have hP : va_P D vwCl [cM hM hO hW hY 1 a] H := hP
        have hD : va_D A [cM hM hO hW hY 1 a] := hD
        refine lv_aload_n hx hb dX2_start_71 rfl (lv_at hl 2 rfl) ?_
        refine va_get (D := D) (cl := vwCl) (ci := 2) (v := .int 1) (C := RX2) (T := TX2) (N := 16) hx hb hts in_X2_start_X2 hown hK hP 0 rfl rfl 0 (by decide) (hts (.fieldLink RX2 20 "WitchTrialModel" "thrown" "I") (List.mem_of_getElem? (i := 1) rfl)) (fun _ h9 => h9) rfl dX2_start_72 ?_
        refine lv_if_le (tgt := 80) hx hb dX2_start_75 (by decide) (fun c_18 => ?_) (fun c_18 => ?_)
        · exact absurd c_18 (by decide)
        · refine lv_iconst (v := 0) hx hb dX2_start_78 (by decide) ?_
          have hP9 : va_P D vwCl [cM hM hO hW hY 1 a] H := by
            exact hP
          exact mi_iret hx hb hr hlocks hS (by rfl) hP9 dX2_start_79
      · exact absurd c_17 (by decide)
    · have c_16 : (xIn pl 4 8) = true := bI_1 c_16
      refine lv_iload hx hb dX2_start_24 (lv_at hl 0 rfl) ?_
      refine lv_if_le (tgt := 54) hx hb dX2_start_26 (by decide) (fun c_19 => ?_) (fun c_19 => ?_)
      · refine lv_iconst (v := 0) hx hb dX2_start_54 (by decide) ?_
        refine lv_istore (lv' := [(6, .int 0), (5, .int 0), (0, .ref hM), (1, .int pl), (2, .int wi), (3, .int se), (4, .int gu)]) hx hb dX2_start_55 hl (by decide) rfl (fun ls hl => ?_)
        refine lv_aload_n hx hb dX2_start_57 rfl (lv_at hl 2 rfl) ?_
        refine lv_iload hx hb dX2_start_58 (lv_at hl 0 rfl) ?_
        refine lv_if_eq (tgt := 67) hx hb dX2_start_60 (by decide) (fun c_20 => ?_) (fun c_20 => ?_)
        · refine lv_iconst (v := 1) hx hb dX2_start_67 (by decide) ?_
          refine va_put (D := D) (cl := vwCl) (ci := 2) (v := .int 1) (ty := .int) (C := RX2) (T := TX2) (N := 16) hx hb hts in_X2_start_X2 tyX2 tyX2_ok nmX2 hown hK hP hD hS 0 rfl rfl 0 (by decide) (hts (.fieldLink RX2 20 "WitchTrialModel" "thrown" "I") (List.mem_of_getElem? (i := 1) rfl)) (fun _ h9 => h9) rfl (by decide +kernel) rfl rfl (Nat.le_of_ble_eq_true rfl) dX2_start_68 (fun H locs hP hD hS => ?_)
          have hP : va_P D vwCl [cM hM hO hW hY 1 a] H := hP
          have hD : va_D A [cM hM hO hW hY 1 a] := hD
          refine lv_aload_n hx hb dX2_start_71 rfl (lv_at hl 2 rfl) ?_
          refine va_get (D := D) (cl := vwCl) (ci := 2) (v := .int 1) (C := RX2) (T := TX2) (N := 16) hx hb hts in_X2_start_X2 hown hK hP 0 rfl rfl 0 (by decide) (hts (.fieldLink RX2 20 "WitchTrialModel" "thrown" "I") (List.mem_of_getElem? (i := 1) rfl)) (fun _ h9 => h9) rfl dX2_start_72 ?_
          refine lv_if_le (tgt := 80) hx hb dX2_start_75 (by decide) (fun c_21 => ?_) (fun c_21 => ?_)
          · exact absurd c_21 (by decide)
          · refine lv_iconst (v := 0) hx hb dX2_start_78 (by decide) ?_
            have hP9 : va_P D vwCl [cM hM hO hW hY 1 a] H := by
              exact hP
            exact mi_iret hx hb hr hlocks hS (by rfl) hP9 dX2_start_79
        · exact absurd c_20 (by decide)
      · exact absurd c_19 (by decide)
