theorem in_X2_suspect_X2 : ∀ w ∈ wsX20, w ∈ wsX2_suspect := by decide +kernel
set_option maxHeartbeats 2000000 in
set_option maxRecDepth 100000 in
theorem c_X2_suspect (l : Launch) (D : va_G) (cI cZ cJ : ClassId) (sz : Nat) (hM : Nat) (hO : Nat) (hW : Nat) (hY : Nat) (th : Int32) (a : Nat → Int32) (o : Nat → Bool) (mn : Nat → Int32) (q : Int32) (n : Nat) (hn : a 2 = nI n) (hn8 : n ≤ 8) (hk : kAs a q = 0) : Mi l D cI cZ cJ yX2_suspect wsX2_suspect 5 113 sz [.ref hM, .int q] [cM hM hO hW hY th a, cA cZ hO 16384 (fun w => bI (o w)), cA cI hY 8 mn] [cM hM hO hW hY (kAs a q) a, cA cZ hO 16384 (fun w => bI (o w)), cA cI hY 8 (iUp (xNw a o q) mn n)] ((xSus a (iUp (xNw a o q) mn n) q n)) := by
  refine mi_of (by decide) rfl (Nat.le_of_ble_eq_true rfl) (fun p e s m below meth c ls A hx hb hr hml hts hown hlocks hin hP hK hN hD hA hS hl => ?_)
  have hl : lv_has ls 4 [(0, .ref hM), (1, .int q)] := hl
  refine lv_aload_n hx hb dX2_suspect_0 rfl (lv_at hl 0 rfl) ?_
  refine lv_iload_n hx hb dX2_suspect_1 rfl (lv_at hl 1 rfl) ?_
  refine mi_V (b := hM) (As := [.int q]) (rest := []) (W2 := [cM hM hO hW hY (kAs a q) a, cA cZ hO 16384 (fun w => bI (o w)), cA cI hY 8 mn]) ⟨hx, hb, hml, hown, hts⟩ (c_X2_asks l D cI cZ cJ _ hM hO hW hY th a q) (cwV 1 hts gX2_suspect_X2_asks rfl rfl rfl (by decide +kernel) ⟨Nat.le_of_ble_eq_true rfl, Nat.le_of_ble_eq_true rfl⟩) hP hD hK hN hS hA (va_recv hK hP (ci := 2) (q0 := 0) rfl rfl) rfl hl.1 rfl (Nat.le_of_ble_eq_true rfl) dX2_suspect_2 ⟨Nat.le_of_ble_eq_true rfl, Nat.le_of_ble_eq_true rfl⟩ [0] [1, 2] rfl rfl rfl (by intro i hi; simp only [List.mem_cons, List.not_mem_nil, or_false] at hi; rcases hi with rfl | rfl <;> rfl) rfl 3 rfl (by decide) (by decide) (fun H locs hP hD hS => ?_)
  refine lv_if_ne (tgt := 10) hx hb dX2_suspect_5 (by decide) (fun c_1 => ?_) (fun c_1 => ?_)
  · have c_1 : (decide (kAs a q = 0)) = true := bI_1 c_1
    refine lv_aload_n hx hb dX2_suspect_10 rfl (lv_at hl 0 rfl) ?_
    refine lv_iload_n hx hb dX2_suspect_11 rfl (lv_at hl 1 rfl) ?_
    refine mv_V (b := hM) (As := [.int q]) (rest := []) (W2 := [cM hM hO hW hY (kAs a q) a, cA cZ hO 16384 (fun w => bI (o w)), cA cI hY 8 (iUp (xNw a o q) mn n)]) ⟨hx, hb, hml, hown, hts⟩ (c_X2_laysWitches l D cI cZ cJ _ hM hO hW hY (kAs a q) a o mn q n hn hn8) (cwV 1 hts gX2_suspect_X2_laysWitches rfl rfl rfl (by decide +kernel) ⟨Nat.le_of_ble_eq_true rfl, Nat.le_of_ble_eq_true rfl⟩) hP hD hK hN hS hA (va_recv hK hP (ci := 2) (q0 := 0) rfl rfl) rfl hl.1 rfl (Nat.le_of_ble_eq_true rfl) dX2_suspect_12 ⟨Nat.le_of_ble_eq_true rfl, Nat.le_of_ble_eq_true rfl⟩ [0, 1, 2] [] rfl rfl rfl (fun i hi => nomatch hi) rfl 3 rfl (by decide) (by decide) (fun H locs hP hD hS => ?_)
    refine lv_iconst (v := (-1)) hx hb dX2_suspect_15 (by decide) ?_
    refine lv_istore_n (lv' := [(2, .int (-1)), (0, .ref hM), (1, .int q)]) hx hb dX2_suspect_16 rfl hl (by decide) rfl (fun ls hl => ?_)
    refine lv_iconst (v := 0) hx hb dX2_suspect_17 (by decide) ?_
    refine lv_istore_n (lv' := [(3, .int 0), (2, .int (-1)), (0, .ref hM), (1, .int q)]) hx hb dX2_suspect_18 rfl hl (by decide) rfl (fun ls hl => ?_)
    refine loop_R (nL := 4) (h := 19) n (fun i => [(0, .ref hM), (1, .int q), (2, .int (xSus a (iUp (xNw a o q) mn n) q i)), (3, .int (nI i))]) (fun _ => True) (fun i hi hI ih_i ls hl => ?_) 0 (by omega) trivial ls ?_
    · have hl : lv_has ls 4 [(0, .ref hM), (1, .int q), (2, .int (xSus a (iUp (xNw a o q) mn n) q i)), (3, .int (nI i))] := hl
      refine lv_iload_n hx hb dX2_suspect_19 rfl (lv_at hl 3 rfl) ?_
      refine lv_aload_n hx hb dX2_suspect_20 rfl (lv_at hl 0 rfl) ?_
      refine va_get (D := D) (cl := vwCl) (ci := 2) (v := .int (a 2)) (C := RX2) (T := TX2) (N := 16) hx hb hts in_X2_suspect_X2 hown hK hP 0 rfl rfl 2 (by decide) (hts (.fieldLink RX2 24 "WitchTrialModel" "players" "I") (List.mem_of_getElem? (i := 1) rfl)) (fun _ h9 => h9) rfl dX2_suspect_21 ?_
      refine lv_icmp_ge (tgt := 71) hx hb dX2_suspect_24 (by decide) (fun c_3 => ?_) (fun c_3 => ?_)
      · have hi9 : n = i := (geN hi (by omega) hn c_3).symm
        subst hi9
        refine lv_iload_n hx hb dX2_suspect_71 rfl (lv_at hl 2 rfl) ?_
        have hP9 : va_P D vwCl [cM hM hO hW hY (kAs a q) a, cA cZ hO 16384 (fun w => bI (o w)), cA cI hY 8 (iUp (xNw a o q) mn n)] H := by
          exact hP
        exact mi_iret hx hb hr hlocks hS (by rfl) hP9 dX2_suspect_72
      · have hlt : i < n := ltN hi (by omega) hn c_3
        refine lv_aload_n hx hb dX2_suspect_27 rfl (lv_at hl 0 rfl) ?_
        refine va_get (D := D) (cl := vwCl) (ci := 2) (v := .int (a 6)) (C := RX2) (T := TX2) (N := 16) hx hb hts in_X2_suspect_X2 hown hK hP 0 rfl rfl 7 (by decide) (hts (.fieldLink RX2 67 "WitchTrialModel" "alive" "I") (List.mem_of_getElem? (i := 2) rfl)) (fun _ h9 => h9) rfl dX2_suspect_28 ?_
        refine lv_iload_n hx hb dX2_suspect_31 rfl (lv_at hl 3 rfl) ?_
        refine rd_S (As := [.int (a 6), .int (nI i)]) (rest := []) ⟨hx, hb, hml, hown, hts⟩ (c_X2_has l D cI cZ cJ (a 6) (nI i)) (va_cwS 2 hts gX2_suspect_X2_has rfl rfl rfl (by decide +kernel) ⟨Nat.le_of_ble_eq_true rfl, Nat.le_of_ble_eq_true rfl⟩) (hP.sub (ws' := []) [] rfl) hK hN rfl hl.1 rfl (Nat.le_of_ble_eq_true rfl) dX2_suspect_32 ⟨Nat.le_of_ble_eq_true rfl, Nat.le_of_ble_eq_true rfl⟩ ?_
        refine lv_if_eq (tgt := 65) hx hb dX2_suspect_35 (by decide) (fun c_4 => ?_) (fun c_4 => ?_)
        · have c_4 : (xHas (a 6) (nI i)) = false := bI_0 c_4
          refine lv_iinc (v := (nI (i + 1))) (lv' := [(3, .int (nI (i + 1))), (0, .ref hM), (1, .int q), (2, .int (xSus a (iUp (xNw a o q) mn n) q i))]) hx hb dX2_suspect_65 hl (k := 3) rfl (nI_1 i) (by decide) rfl (fun ls hl => ?_)
          refine lv_goto (tgt := 19) hx hb dX2_suspect_68 (by decide) ?_
          have eb_0 : (xSus a (iUp (xNw a o q) mn n) q (i + 1)) = (xSus a (iUp (xNw a o q) mn n) q i) := by (first | rfl | (simp only [xSus, bI, c_1, c_3, c_4, eq_self, ↓reduceIte]; done) | (simp only [xSus, bI, c_1, c_3, c_4, eq_self, ↓reduceIte]; rfl) | simp [xSus, bI, c_1, c_3, c_4])
          exact ih_i (by omega) trivial ls (by show lv_has ls 4 [(0, .ref hM), (1, .int q), (2, .int (xSus a (iUp (xNw a o q) mn n) q (i + 1))), (3, .int (nI (i + 1)))]; rw [eb_0]; exact lv_sub hl [1, 2, 3, 0] rfl)
        · have c_4 : (xHas (a 6) (nI i)) = true := bI_1 c_4
          refine lv_iload_n hx hb dX2_suspect_38 rfl (lv_at hl 3 rfl) ?_
          refine lv_iload_n hx hb dX2_suspect_39 rfl (lv_at hl 1 rfl) ?_
          refine lv_icmp_eq (tgt := 65) hx hb dX2_suspect_40 (by decide) (fun c_5 => ?_) (fun c_5 => ?_)
          · refine lv_iinc (v := (nI (i + 1))) (lv' := [(3, .int (nI (i + 1))), (0, .ref hM), (1, .int q), (2, .int (xSus a (iUp (xNw a o q) mn n) q i))]) hx hb dX2_suspect_65 hl (k := 3) rfl (nI_1 i) (by decide) rfl (fun ls hl => ?_)
            refine lv_goto (tgt := 19) hx hb dX2_suspect_68 (by decide) ?_
            have eb_0 : (xSus a (iUp (xNw a o q) mn n) q (i + 1)) = (xSus a (iUp (xNw a o q) mn n) q i) := by (first | rfl | (simp only [xSus, bI, c_1, c_3, c_4, c_5, eq_self, ↓reduceIte]; done) | (simp only [xSus, bI, c_1, c_3, c_4, c_5, eq_self, ↓reduceIte]; rfl) | (simp only [xSus, bI, c_1, c_3, c_4, eq_true c_5, eq_self, ↓reduceIte]; done) | (simp only [xSus, bI, c_1, c_3, c_4, eq_true c_5, eq_self, ↓reduceIte]; rfl) | (simp [xSus, bI, c_1, c_3, c_4, eq_true c_5]; done) | simp [xSus, bI, c_1, c_3, c_4, c_5])
            exact ih_i (by omega) trivial ls (by show lv_has ls 4 [(0, .ref hM), (1, .int q), (2, .int (xSus a (iUp (xNw a o q) mn n) q (i + 1))), (3, .int (nI (i + 1)))]; rw [eb_0]; exact lv_sub hl [1, 2, 3, 0] rfl)
          · refine lv_iload_n hx hb dX2_suspect_43 rfl (lv_at hl 2 rfl) ?_
            refine lv_iconst (v := (-1)) hx hb dX2_suspect_44 (by decide) ?_
            refine lv_icmp_eq (tgt := 63) hx hb dX2_suspect_45 (by decide) (fun c_6 => ?_) (fun c_6 => ?_)
            · refine lv_iload_n hx hb dX2_suspect_63 rfl (lv_at hl 3 rfl) ?_
              refine lv_istore_n (lv' := [(2, .int (nI i)), (0, .ref hM), (1, .int q), (3, .int (nI i))]) hx hb dX2_suspect_64 rfl hl (by decide) rfl (fun ls hl => ?_)
              refine lv_iinc (v := (nI (i + 1))) (lv' := [(3, .int (nI (i + 1))), (2, .int (nI i)), (0, .ref hM), (1, .int q)]) hx hb dX2_suspect_65 hl (k := 3) rfl (nI_1 i) (by decide) rfl (fun ls hl => ?_)
              refine lv_goto (tgt := 19) hx hb dX2_suspect_68 (by decide) ?_
              have eb_0 : (xSus a (iUp (xNw a o q) mn n) q (i + 1)) = (nI i) := by (first | rfl | (simp only [xSus, bI, c_1, c_3, c_4, c_5, c_6, eq_self, ↓reduceIte]; done) | (simp only [xSus, bI, c_1, c_3, c_4, c_5, c_6, eq_self, ↓reduceIte]; rfl) | (simp only [xSus, bI, c_1, c_3, c_4, c_5, eq_true c_6, eq_self, ↓reduceIte]; done) | (simp only [xSus, bI, c_1, c_3, c_4, c_5, eq_true c_6, eq_self, ↓reduceIte]; rfl) | (simp [xSus, bI, c_1, c_3, c_4, c_5, eq_true c_6]; done) | simp [xSus, bI, c_1, c_3, c_4, c_5, c_6])
              exact ih_i (by omega) trivial ls (by show lv_has ls 4 [(0, .ref hM), (1, .int q), (2, .int (xSus a (iUp (xNw a o q) mn n) q (i + 1))), (3, .int (nI (i + 1)))]; rw [eb_0]; exact lv_sub hl [2, 3, 1, 0] rfl)
            · refine lv_aload_n hx hb dX2_suspect_48 rfl (lv_at hl 0 rfl) ?_
              refine va_get (D := D) (cl := vwCl) (ci := 2) (v := .ref hY) (C := RX2) (T := TX2) (N := 16) hx hb hts in_X2_suspect_X2 hown hK hP 0 rfl rfl 15 (by decide) (hts (.fieldLink RX2 17 "WitchTrialModel" "many" "[I") (List.mem_of_getElem? (i := 3) rfl)) (fun _ h9 => h9) rfl dX2_suspect_49 ?_
              refine lv_iload_n hx hb dX2_suspect_52 rfl (lv_at hl 3 rfl) ?_
              refine q_iald (D := D) (j := i) (v := ((iUp (xNw a o q) mn n) i)) hx hb hK hP 2 0 rfl rfl (by omega) (Nat.le_of_ble_eq_true rfl) rfl dX2_suspect_53 ?_
              refine lv_aload_n hx hb dX2_suspect_54 rfl (lv_at hl 0 rfl) ?_
              refine va_get (D := D) (cl := vwCl) (ci := 2) (v := .ref hY) (C := RX2) (T := TX2) (N := 16) hx hb hts in_X2_suspect_X2 hown hK hP 0 rfl rfl 15 (by decide) (hts (.fieldLink RX2 17 "WitchTrialModel" "many" "[I") (List.mem_of_getElem? (i := 3) rfl)) (fun _ h9 => h9) rfl dX2_suspect_55 ?_
              refine lv_iload_n hx hb dX2_suspect_58 rfl (lv_at hl 2 rfl) ?_
              obtain ⟨j9, hj9, ej9⟩ := xSus_in _ _ _ _ c_6
              have ec9 := congrArg Int32.toNatClampNeg ej9
              rw [nI_clamp (show j9 < 2 ^ 31 by omega)] at ec9
              refine lv_topi (fun x9 ex9 => ?_)
              rw [ej9] at ex9
              subst ex9
              refine q_iald (D := D) (j := j9) (v := ((iUp (xNw a o q) mn n) j9)) hx hb hK hP 2 0 rfl rfl (by omega) (Nat.le_of_ble_eq_true rfl) rfl dX2_suspect_59 ?_
              refine lv_icmp_le (tgt := 65) hx hb dX2_suspect_60 (by decide) (fun c_7 => ?_) (fun c_7 => ?_)
              · refine lv_iinc (v := (nI (i + 1))) (lv' := [(3, .int (nI (i + 1))), (0, .ref hM), (1, .int q), (2, .int (xSus a (iUp (xNw a o q) mn n) q i))]) hx hb dX2_suspect_65 hl (k := 3) rfl (nI_1 i) (by decide) rfl (fun ls hl => ?_)
                refine lv_goto (tgt := 19) hx hb dX2_suspect_68 (by decide) ?_
                have eb_0 : (xSus a (iUp (xNw a o q) mn n) q (i + 1)) = (xSus a (iUp (xNw a o q) mn n) q i) := by (first | rfl | (simp only [xSus, bI, c_1, c_3, c_4, c_5, c_6, c_7, ec9, eq_self, ↓reduceIte]; done) | (simp only [xSus, bI, c_1, c_3, c_4, c_5, c_6, c_7, ec9, eq_self, ↓reduceIte]; rfl) | simp [xSus, bI, c_1, c_3, c_4, c_5, c_6, c_7, ec9])
                exact ih_i (by omega) trivial ls (by show lv_has ls 4 [(0, .ref hM), (1, .int q), (2, .int (xSus a (iUp (xNw a o q) mn n) q (i + 1))), (3, .int (nI (i + 1)))]; rw [eb_0]; exact lv_sub hl [1, 2, 3, 0] rfl)
              · refine lv_iload_n hx hb dX2_suspect_63 rfl (lv_at hl 3 rfl) ?_
                refine lv_istore_n (lv' := [(2, .int (nI i)), (0, .ref hM), (1, .int q), (3, .int (nI i))]) hx hb dX2_suspect_64 rfl hl (by decide) rfl (fun ls hl => ?_)
                refine lv_iinc (v := (nI (i + 1))) (lv' := [(3, .int (nI (i + 1))), (2, .int (nI i)), (0, .ref hM), (1, .int q)]) hx hb dX2_suspect_65 hl (k := 3) rfl (nI_1 i) (by decide) rfl (fun ls hl => ?_)
                refine lv_goto (tgt := 19) hx hb dX2_suspect_68 (by decide) ?_
                have eb_0 : (xSus a (iUp (xNw a o q) mn n) q (i + 1)) = (nI i) := by (first | rfl | (simp only [xSus, bI, c_1, c_3, c_4, c_5, c_6, c_7, ec9, eq_self, ↓reduceIte]; done) | (simp only [xSus, bI, c_1, c_3, c_4, c_5, c_6, c_7, ec9, eq_self, ↓reduceIte]; rfl) | simp [xSus, bI, c_1, c_3, c_4, c_5, c_6, c_7, ec9])
                exact ih_i (by omega) trivial ls (by show lv_has ls 4 [(0, .ref hM), (1, .int q), (2, .int (xSus a (iUp (xNw a o q) mn n) q (i + 1))), (3, .int (nI (i + 1)))]; rw [eb_0]; exact lv_sub hl [2, 3, 1, 0] rfl)
    · show lv_has ls 4 [(0, .ref hM), (1, .int q), (2, .int (xSus a (iUp (xNw a o q) mn n) q 0)), (3, .int (nI 0))]
      have en_0 : (xSus a (iUp (xNw a o q) mn n) q 0) = (-1) := by rfl
      rw [en_0]
      have en_1 : (nI 0) = 0 := by exact nI_0
      rw [en_1]
      exact lv_sub hl [2, 3, 1, 0] rfl
  · have c_1 : (decide (kAs a q = 0)) = false := bI_0 c_1
    simp [hk] at c_1

set_option maxHeartbeats 2000000 in
set_option maxRecDepth 100000 in
theorem f_X2_suspect (l : Launch) (D : va_G) (cI cZ cJ : ClassId) (sz : Nat) (hM : Nat) (hO : Nat) (hW : Nat) (hY : Nat) (th : Int32) (a : Nat → Int32) (q : Int32) (hk : ¬ kAs a q = 0) : Mi l D cI cZ cJ yX2_suspect wsX2_suspect 4 85 sz [.ref hM, .int q] [cM hM hO hW hY th a] [cM hM hO hW hY (kAs a q) a] (0) := by
  refine mi_of (by decide) rfl (Nat.le_of_ble_eq_true rfl) (fun p e s m below meth c ls A hx hb hr hml hts hown hlocks hin hP hK hN hD hA hS hl => ?_)
  have hl : lv_has ls 4 [(0, .ref hM), (1, .int q)] := hl
  refine lv_aload_n hx hb dX2_suspect_0 rfl (lv_at hl 0 rfl) ?_
  refine lv_iload_n hx hb dX2_suspect_1 rfl (lv_at hl 1 rfl) ?_
  refine mi_V (b := hM) (As := [.int q]) (rest := []) (W2 := [cM hM hO hW hY (kAs a q) a]) ⟨hx, hb, hml, hown, hts⟩ (c_X2_asks l D cI cZ cJ _ hM hO hW hY th a q) (cwV 1 hts gX2_suspect_X2_asks rfl rfl rfl (by decide +kernel) ⟨Nat.le_of_ble_eq_true rfl, Nat.le_of_ble_eq_true rfl⟩) hP hD hK hN hS hA (va_recv hK hP (ci := 2) (q0 := 0) rfl rfl) rfl hl.1 rfl (Nat.le_of_ble_eq_true rfl) dX2_suspect_2 ⟨Nat.le_of_ble_eq_true rfl, Nat.le_of_ble_eq_true rfl⟩ [0] [] rfl rfl rfl (fun i hi => nomatch hi) rfl 1 rfl (by decide) (by decide) (fun H locs hP hD hS => ?_)
  refine lv_if_ne (tgt := 10) hx hb dX2_suspect_5 (by decide) (fun c_1 => ?_) (fun c_1 => ?_)
  · have c_1 : (decide (kAs a q = 0)) = true := bI_1 c_1
    simp [hk] at c_1
  · have c_1 : (decide (kAs a q = 0)) = false := bI_0 c_1
    refine lv_iconst (v := 0) hx hb dX2_suspect_8 (by decide) ?_
    have hP9 : va_P D vwCl [cM hM hO hW hY (kAs a q) a] H := by
      exact hP
    exact mi_iret hx hb hr hlocks hS (by rfl) hP9 dX2_suspect_9

theorem in_X2_bestLook_X2 : ∀ w ∈ wsX20, w ∈ wsX2_bestLook := by decide +kernel
set_option maxHeartbeats 2000000 in
set_option maxRecDepth 100000 in
theorem c_X2_bestLook (l : Launch) (D : va_G) (cI cZ cJ : ClassId) (sz : Nat) (hM : Nat) (hO : Nat) (hW : Nat) (hY : Nat) (th : Int32) (a : Nat → Int32) (o : Nat → Bool) (mn : Nat → Int32) (n : Nat) (hn : a 2 = nI n) (hn8 : n ≤ 8) (hk : xGm a = true) : Mi l D cI cZ cJ yX2_bestLook wsX2_bestLook 5 113 sz [.ref hM] [cM hM hO hW hY th a, cA cZ hO 16384 (fun w => bI (o w)), cA cI hY 8 mn] [cM hM hO hW hY (kGm a) a, cA cZ hO 16384 (fun w => bI (o w)), cA cI hY 8 (iUp (xNw a o (a 4)) mn n)] ((xBl a (iUp (xNw a o (a 4)) mn n) (xCnt (xFor a o (a 4)) 16384) n).1) := by
  refine mi_of (by decide) rfl (Nat.le_of_ble_eq_true rfl) (fun p e s m below meth c ls A hx hb hr hml hts hown hlocks hin hP hK hN hD hA hS hl => ?_)
  have hl : lv_has ls 6 [(0, .ref hM)] := hl
  refine lv_aload_n hx hb dX2_bestLook_0 rfl (lv_at hl 0 rfl) ?_
  refine mi_V (b := hM) (As := []) (rest := []) (W2 := [cM hM hO hW hY (kGm a) a, cA cZ hO 16384 (fun w => bI (o w)), cA cI hY 8 mn]) ⟨hx, hb, hml, hown, hts⟩ (c_X2_isGame l D cI cZ cJ _ hM hO hW hY th a) (cwV 0 hts gX2_bestLook_X2_isGame rfl rfl rfl (by decide +kernel) ⟨Nat.le_of_ble_eq_true rfl, Nat.le_of_ble_eq_true rfl⟩) hP hD hK hN hS hA (va_recv hK hP (ci := 2) (q0 := 0) rfl rfl) rfl hl.1 rfl (Nat.le_of_ble_eq_true rfl) dX2_bestLook_1 ⟨Nat.le_of_ble_eq_true rfl, Nat.le_of_ble_eq_true rfl⟩ [0] [1, 2] rfl rfl rfl (by intro i hi; simp only [List.mem_cons, List.not_mem_nil, or_false] at hi; rcases hi with rfl | rfl <;> rfl) rfl 3 rfl (by decide) (by decide) (fun H locs hP hD hS => ?_)
  refine lv_if_ne (tgt := 9) hx hb dX2_bestLook_4 (by decide) (fun c_1 => ?_) (fun c_1 => ?_)
  · have c_1 : (xGm a) = true := bI_1 c_1
    refine lv_aload_n hx hb dX2_bestLook_9 rfl (lv_at hl 0 rfl) ?_
    refine lv_aload_n hx hb dX2_bestLook_10 rfl (lv_at hl 0 rfl) ?_
    refine va_get (D := D) (cl := vwCl) (ci := 2) (v := .int (a 4)) (C := RX2) (T := TX2) (N := 16) hx hb hts in_X2_bestLook_X2 hown hK hP 0 rfl rfl 4 (by decide) (hts (.fieldLink RX2 46 "WitchTrialModel" "seer" "I") (List.mem_of_getElem? (i := 1) rfl)) (fun _ h9 => h9) rfl dX2_bestLook_11 ?_
    refine mv_V (b := hM) (As := [.int (a 4)]) (rest := []) (W2 := [cM hM hO hW hY (kGm a) a, cA cZ hO 16384 (fun w => bI (o w)), cA cI hY 8 (iUp (xNw a o (a 4)) mn n)]) ⟨hx, hb, hml, hown, hts⟩ (c_X2_laysWitches l D cI cZ cJ _ hM hO hW hY (kGm a) a o mn (a 4) n hn hn8) (cwV 1 hts gX2_bestLook_X2_laysWitches rfl rfl rfl (by decide +kernel) ⟨Nat.le_of_ble_eq_true rfl, Nat.le_of_ble_eq_true rfl⟩) hP hD hK hN hS hA (va_recv hK hP (ci := 2) (q0 := 0) rfl rfl) rfl hl.1 rfl (Nat.le_of_ble_eq_true rfl) dX2_bestLook_14 ⟨Nat.le_of_ble_eq_true rfl, Nat.le_of_ble_eq_true rfl⟩ [0, 1, 2] [] rfl rfl rfl (fun i hi => nomatch hi) rfl 3 rfl (by decide) (by decide) (fun H locs hP hD hS => ?_)
    refine lv_aload_n hx hb dX2_bestLook_17 rfl (lv_at hl 0 rfl) ?_
    refine lv_aload_n hx hb dX2_bestLook_18 rfl (lv_at hl 0 rfl) ?_
    refine va_get (D := D) (cl := vwCl) (ci := 2) (v := .int (a 4)) (C := RX2) (T := TX2) (N := 16) hx hb hts in_X2_bestLook_X2 hown hK hP 0 rfl rfl 4 (by decide) (hts (.fieldLink RX2 46 "WitchTrialModel" "seer" "I") (List.mem_of_getElem? (i := 1) rfl)) (fun _ h9 => h9) rfl dX2_bestLook_19 ?_
    refine rd_V (b := hM) (As := [.int (a 4)]) (rest := []) ⟨hx, hb, hml, hown, hts⟩ (c_X2_manyFor l D cI cZ cJ hM hO hW hY (kGm a) a o (a 4)) (cwV 1 hts gX2_bestLook_X2_manyFor rfl rfl rfl (by decide +kernel) ⟨Nat.le_of_ble_eq_true rfl, Nat.le_of_ble_eq_true rfl⟩) (hP.sub (ws' := [cM hM hO hW hY (kGm a) a, cA cZ hO 16384 (fun w => bI (o w))]) [0, 1] rfl) hK hN (va_recv hK hP (ci := 2) (q0 := 0) rfl rfl) rfl hl.1 rfl (Nat.le_of_ble_eq_true rfl) dX2_bestLook_22 ⟨Nat.le_of_ble_eq_true rfl, Nat.le_of_ble_eq_true rfl⟩ ?_
    refine lv_istore_n (lv' := [(1, .int (xCnt (xFor a o (a 4)) 16384)), (0, .ref hM)]) hx hb dX2_bestLook_25 rfl hl (by decide) rfl (fun ls hl => ?_)
    refine lv_iconst (v := (-1)) hx hb dX2_bestLook_26 (by decide) ?_
    refine lv_istore_n (lv' := [(2, .int (-1)), (1, .int (xCnt (xFor a o (a 4)) 16384)), (0, .ref hM)]) hx hb dX2_bestLook_27 rfl hl (by decide) rfl (fun ls hl => ?_)
    refine lv_iconst (v := 0) hx hb dX2_bestLook_28 (by decide) ?_
    refine lv_istore_n (lv' := [(3, .int 0), (2, .int (-1)), (1, .int (xCnt (xFor a o (a 4)) 16384)), (0, .ref hM)]) hx hb dX2_bestLook_29 rfl hl (by decide) rfl (fun ls hl => ?_)
    refine lv_iconst (v := 0) hx hb dX2_bestLook_30 (by decide) ?_
    refine lv_istore (lv' := [(4, .int 0), (3, .int 0), (2, .int (-1)), (1, .int (xCnt (xFor a o (a 4)) 16384)), (0, .ref hM)]) hx hb dX2_bestLook_31 hl (by decide) rfl (fun ls hl => ?_)
    refine loop_R (nL := 6) (h := 33) n (fun i => [(0, .ref hM), (1, .int (xCnt (xFor a o (a 4)) 16384)), (2, .int ((xBl a (iUp (xNw a o (a 4)) mn n) (xCnt (xFor a o (a 4)) 16384) i).1)), (3, .int ((xBl a (iUp (xNw a o (a 4)) mn n) (xCnt (xFor a o (a 4)) 16384) i).2)), (4, .int (nI i))]) (fun _ => True) (fun i hi hI ih_i ls hl => ?_) 0 (by omega) trivial ls ?_
    · have hl : lv_has ls 6 [(0, .ref hM), (1, .int (xCnt (xFor a o (a 4)) 16384)), (2, .int ((xBl a (iUp (xNw a o (a 4)) mn n) (xCnt (xFor a o (a 4)) 16384) i).1)), (3, .int ((xBl a (iUp (xNw a o (a 4)) mn n) (xCnt (xFor a o (a 4)) 16384) i).2)), (4, .int (nI i))] := hl
      refine lv_iload hx hb dX2_bestLook_33 (lv_at hl 4 rfl) ?_
      refine lv_aload_n hx hb dX2_bestLook_35 rfl (lv_at hl 0 rfl) ?_
      refine va_get (D := D) (cl := vwCl) (ci := 2) (v := .int (a 2)) (C := RX2) (T := TX2) (N := 16) hx hb hts in_X2_bestLook_X2 hown hK hP 0 rfl rfl 2 (by decide) (hts (.fieldLink RX2 24 "WitchTrialModel" "players" "I") (List.mem_of_getElem? (i := 2) rfl)) (fun _ h9 => h9) rfl dX2_bestLook_36 ?_
      refine lv_icmp_ge (tgt := 126) hx hb dX2_bestLook_39 (by decide) (fun c_3 => ?_) (fun c_3 => ?_)
      · have hi9 : n = i := (geN hi (by omega) hn c_3).symm
        subst hi9
        refine lv_iload_n hx hb dX2_bestLook_126 rfl (lv_at hl 2 rfl) ?_
        have hP9 : va_P D vwCl [cM hM hO hW hY (kGm a) a, cA cZ hO 16384 (fun w => bI (o w)), cA cI hY 8 (iUp (xNw a o (a 4)) mn n)] H := by
          exact hP
        exact mi_iret hx hb hr hlocks hS (by rfl) hP9 dX2_bestLook_127
      · have hlt : i < n := ltN hi (by omega) hn c_3
        refine lv_aload_n hx hb dX2_bestLook_42 rfl (lv_at hl 0 rfl) ?_
        refine va_get (D := D) (cl := vwCl) (ci := 2) (v := .ref hY) (C := RX2) (T := TX2) (N := 16) hx hb hts in_X2_bestLook_X2 hown hK hP 0 rfl rfl 15 (by decide) (hts (.fieldLink RX2 17 "WitchTrialModel" "many" "[I") (List.mem_of_getElem? (i := 3) rfl)) (fun _ h9 => h9) rfl dX2_bestLook_43 ?_
        refine lv_iload hx hb dX2_bestLook_46 (lv_at hl 4 rfl) ?_
        refine q_iald (D := D) (j := i) (v := ((iUp (xNw a o (a 4)) mn n) i)) hx hb hK hP 2 0 rfl rfl (by omega) (Nat.le_of_ble_eq_true rfl) rfl dX2_bestLook_48 ?_
        refine lv_iload_n hx hb dX2_bestLook_49 rfl (lv_at hl 1 rfl) ?_
        refine lv_aload_n hx hb dX2_bestLook_50 rfl (lv_at hl 0 rfl) ?_
        refine va_get (D := D) (cl := vwCl) (ci := 2) (v := .ref hY) (C := RX2) (T := TX2) (N := 16) hx hb hts in_X2_bestLook_X2 hown hK hP 0 rfl rfl 15 (by decide) (hts (.fieldLink RX2 17 "WitchTrialModel" "many" "[I") (List.mem_of_getElem? (i := 3) rfl)) (fun _ h9 => h9) rfl dX2_bestLook_51 ?_
        refine lv_iload hx hb dX2_bestLook_54 (lv_at hl 4 rfl) ?_
        refine q_iald (D := D) (j := i) (v := ((iUp (xNw a o (a 4)) mn n) i)) hx hb hK hP 2 0 rfl rfl (by omega) (Nat.le_of_ble_eq_true rfl) rfl dX2_bestLook_56 ?_
        refine lv_isub hx hb dX2_bestLook_57 ?_
        refine lv_icmp_le (tgt := 71) hx hb dX2_bestLook_58 (by decide) (fun c_4 => ?_) (fun c_4 => ?_)
        · refine lv_iload_n hx hb dX2_bestLook_71 rfl (lv_at hl 1 rfl) ?_
          refine lv_aload_n hx hb dX2_bestLook_72 rfl (lv_at hl 0 rfl) ?_
          refine va_get (D := D) (cl := vwCl) (ci := 2) (v := .ref hY) (C := RX2) (T := TX2) (N := 16) hx hb hts in_X2_bestLook_X2 hown hK hP 0 rfl rfl 15 (by decide) (hts (.fieldLink RX2 17 "WitchTrialModel" "many" "[I") (List.mem_of_getElem? (i := 3) rfl)) (fun _ h9 => h9) rfl dX2_bestLook_73 ?_
          refine lv_iload hx hb dX2_bestLook_76 (lv_at hl 4 rfl) ?_
          refine q_iald (D := D) (j := i) (v := ((iUp (xNw a o (a 4)) mn n) i)) hx hb hK hP 2 0 rfl rfl (by omega) (Nat.le_of_ble_eq_true rfl) rfl dX2_bestLook_78 ?_
          refine lv_isub hx hb dX2_bestLook_79 ?_
          refine lv_istore (lv' := [(5, .int ((xCnt (xFor a o (a 4)) 16384) - ((iUp (xNw a o (a 4)) mn n) i))), (0, .ref hM), (1, .int (xCnt (xFor a o (a 4)) 16384)), (2, .int ((xBl a (iUp (xNw a o (a 4)) mn n) (xCnt (xFor a o (a 4)) 16384) i).1)), (3, .int ((xBl a (iUp (xNw a o (a 4)) mn n) (xCnt (xFor a o (a 4)) 16384) i).2)), (4, .int (nI i))]) hx hb dX2_bestLook_80 hl (by decide) rfl (fun ls hl => ?_)
          refine lv_aload_n hx hb dX2_bestLook_82 rfl (lv_at hl 1 rfl) ?_
          refine va_get (D := D) (cl := vwCl) (ci := 2) (v := .int (a 6)) (C := RX2) (T := TX2) (N := 16) hx hb hts in_X2_bestLook_X2 hown hK hP 0 rfl rfl 7 (by decide) (hts (.fieldLink RX2 67 "WitchTrialModel" "alive" "I") (List.mem_of_getElem? (i := 4) rfl)) (fun _ h9 => h9) rfl dX2_bestLook_83 ?_
          refine lv_iload hx hb dX2_bestLook_86 (lv_at hl 5 rfl) ?_
          refine rd_S (As := [.int (a 6), .int (nI i)]) (rest := []) ⟨hx, hb, hml, hown, hts⟩ (c_X2_has l D cI cZ cJ (a 6) (nI i)) (va_cwS 2 hts gX2_bestLook_X2_has rfl rfl rfl (by decide +kernel) ⟨Nat.le_of_ble_eq_true rfl, Nat.le_of_ble_eq_true rfl⟩) (hP.sub (ws' := []) [] rfl) hK hN rfl hl.1 rfl (Nat.le_of_ble_eq_true rfl) dX2_bestLook_88 ⟨Nat.le_of_ble_eq_true rfl, Nat.le_of_ble_eq_true rfl⟩ ?_
          refine lv_if_eq (tgt := 120) hx hb dX2_bestLook_91 (by decide) (fun c_5 => ?_) (fun c_5 => ?_)
          · have c_5 : (xHas (a 6) (nI i)) = false := bI_0 c_5
            refine lv_iinc (v := (nI (i + 1))) (lv' := [(4, .int (nI (i + 1))), (5, .int ((xCnt (xFor a o (a 4)) 16384) - ((iUp (xNw a o (a 4)) mn n) i))), (0, .ref hM), (1, .int (xCnt (xFor a o (a 4)) 16384)), (2, .int ((xBl a (iUp (xNw a o (a 4)) mn n) (xCnt (xFor a o (a 4)) 16384) i).1)), (3, .int ((xBl a (iUp (xNw a o (a 4)) mn n) (xCnt (xFor a o (a 4)) 16384) i).2))]) hx hb dX2_bestLook_120 hl (k := 5) rfl (nI_1 i) (by decide) rfl (fun ls hl => ?_)
            refine lv_goto (tgt := 33) hx hb dX2_bestLook_123 (by decide) ?_
            have eb_0 : (xBl a (iUp (xNw a o (a 4)) mn n) (xCnt (xFor a o (a 4)) 16384) (i + 1)).1 = (xBl a (iUp (xNw a o (a 4)) mn n) (xCnt (xFor a o (a 4)) 16384) i).1 := by (first | rfl | (simp only [xBl, bI, c_1, c_3, c_4, c_5, eq_self, ↓reduceIte]; done) | (simp only [xBl, bI, c_1, c_3, c_4, c_5, eq_self, ↓reduceIte]; rfl) | simp [xBl, bI, c_1, c_3, c_4, c_5])
            have eb_1 : (xBl a (iUp (xNw a o (a 4)) mn n) (xCnt (xFor a o (a 4)) 16384) (i + 1)).2 = (xBl a (iUp (xNw a o (a 4)) mn n) (xCnt (xFor a o (a 4)) 16384) i).2 := by (first | rfl | (simp only [xBl, bI, c_1, c_3, c_4, c_5, eq_self, ↓reduceIte]; done) | (simp only [xBl, bI, c_1, c_3, c_4, c_5, eq_self, ↓reduceIte]; rfl) | simp [xBl, bI, c_1, c_3, c_4, c_5])
            exact ih_i (by omega) trivial ls (by show lv_has ls 6 [(0, .ref hM), (1, .int (xCnt (xFor a o (a 4)) 16384)), (2, .int ((xBl a (iUp (xNw a o (a 4)) mn n) (xCnt (xFor a o (a 4)) 16384) (i + 1)).1)), (3, .int ((xBl a (iUp (xNw a o (a 4)) mn n) (xCnt (xFor a o (a 4)) 16384) (i + 1)).2)), (4, .int (nI (i + 1)))]; rw [eb_0]; rw [eb_1]; exact lv_sub hl [2, 3, 4, 5, 0] rfl)
          · have c_5 : (xHas (a 6) (nI i)) = true := bI_1 c_5
            refine lv_iload hx hb dX2_bestLook_94 (lv_at hl 5 rfl) ?_
            refine lv_aload_n hx hb dX2_bestLook_96 rfl (lv_at hl 1 rfl) ?_
            refine va_get (D := D) (cl := vwCl) (ci := 2) (v := .int (a 4)) (C := RX2) (T := TX2) (N := 16) hx hb hts in_X2_bestLook_X2 hown hK hP 0 rfl rfl 4 (by decide) (hts (.fieldLink RX2 46 "WitchTrialModel" "seer" "I") (List.mem_of_getElem? (i := 1) rfl)) (fun _ h9 => h9) rfl dX2_bestLook_97 ?_
            refine lv_icmp_eq (tgt := 120) hx hb dX2_bestLook_100 (by decide) (fun c_6 => ?_) (fun c_6 => ?_)
            · refine lv_iinc (v := (nI (i + 1))) (lv' := [(4, .int (nI (i + 1))), (5, .int ((xCnt (xFor a o (a 4)) 16384) - ((iUp (xNw a o (a 4)) mn n) i))), (0, .ref hM), (1, .int (xCnt (xFor a o (a 4)) 16384)), (2, .int ((xBl a (iUp (xNw a o (a 4)) mn n) (xCnt (xFor a o (a 4)) 16384) i).1)), (3, .int ((xBl a (iUp (xNw a o (a 4)) mn n) (xCnt (xFor a o (a 4)) 16384) i).2))]) hx hb dX2_bestLook_120 hl (k := 5) rfl (nI_1 i) (by decide) rfl (fun ls hl => ?_)
              refine lv_goto (tgt := 33) hx hb dX2_bestLook_123 (by decide) ?_
              have eb_0 : (xBl a (iUp (xNw a o (a 4)) mn n) (xCnt (xFor a o (a 4)) 16384) (i + 1)).1 = (xBl a (iUp (xNw a o (a 4)) mn n) (xCnt (xFor a o (a 4)) 16384) i).1 := by (first | rfl | (simp only [xBl, bI, c_1, c_3, c_4, c_5, c_6, eq_self, ↓reduceIte]; done) | (simp only [xBl, bI, c_1, c_3, c_4, c_5, c_6, eq_self, ↓reduceIte]; rfl) | (simp only [xBl, bI, c_1, c_3, c_4, c_5, eq_true c_6, eq_self, ↓reduceIte]; done) | (simp only [xBl, bI, c_1, c_3, c_4, c_5, eq_true c_6, eq_self, ↓reduceIte]; rfl) | (simp [xBl, bI, c_1, c_3, c_4, c_5, eq_true c_6]; done) | simp [xBl, bI, c_1, c_3, c_4, c_5, c_6])
              have eb_1 : (xBl a (iUp (xNw a o (a 4)) mn n) (xCnt (xFor a o (a 4)) 16384) (i + 1)).2 = (xBl a (iUp (xNw a o (a 4)) mn n) (xCnt (xFor a o (a 4)) 16384) i).2 := by (first | rfl | (simp only [xBl, bI, c_1, c_3, c_4, c_5, c_6, eq_self, ↓reduceIte]; done) | (simp only [xBl, bI, c_1, c_3, c_4, c_5, c_6, eq_self, ↓reduceIte]; rfl) | (simp only [xBl, bI, c_1, c_3, c_4, c_5, eq_true c_6, eq_self, ↓reduceIte]; done) | (simp only [xBl, bI, c_1, c_3, c_4, c_5, eq_true c_6, eq_self, ↓reduceIte]; rfl) | (simp [xBl, bI, c_1, c_3, c_4, c_5, eq_true c_6]; done) | simp [xBl, bI, c_1, c_3, c_4, c_5, c_6])
              exact ih_i (by omega) trivial ls (by show lv_has ls 6 [(0, .ref hM), (1, .int (xCnt (xFor a o (a 4)) 16384)), (2, .int ((xBl a (iUp (xNw a o (a 4)) mn n) (xCnt (xFor a o (a 4)) 16384) (i + 1)).1)), (3, .int ((xBl a (iUp (xNw a o (a 4)) mn n) (xCnt (xFor a o (a 4)) 16384) (i + 1)).2)), (4, .int (nI (i + 1)))]; rw [eb_0]; rw [eb_1]; exact lv_sub hl [2, 3, 4, 5, 0] rfl)
            · refine lv_iload_n hx hb dX2_bestLook_103 rfl (lv_at hl 3 rfl) ?_
              refine lv_iconst (v := (-1)) hx hb dX2_bestLook_104 (by decide) ?_
              refine lv_icmp_eq (tgt := 114) hx hb dX2_bestLook_105 (by decide) (fun c_7 => ?_) (fun c_7 => ?_)
              · refine lv_iload hx hb dX2_bestLook_114 (lv_at hl 5 rfl) ?_
                refine lv_istore_n (lv' := [(2, .int (nI i)), (5, .int ((xCnt (xFor a o (a 4)) 16384) - ((iUp (xNw a o (a 4)) mn n) i))), (0, .ref hM), (1, .int (xCnt (xFor a o (a 4)) 16384)), (3, .int ((xBl a (iUp (xNw a o (a 4)) mn n) (xCnt (xFor a o (a 4)) 16384) i).2)), (4, .int (nI i))]) hx hb dX2_bestLook_116 rfl hl (by decide) rfl (fun ls hl => ?_)
                refine lv_iload hx hb dX2_bestLook_117 (lv_at hl 1 rfl) ?_
                refine lv_istore_n (lv' := [(3, .int ((xCnt (xFor a o (a 4)) 16384) - ((iUp (xNw a o (a 4)) mn n) i))), (2, .int (nI i)), (5, .int ((xCnt (xFor a o (a 4)) 16384) - ((iUp (xNw a o (a 4)) mn n) i))), (0, .ref hM), (1, .int (xCnt (xFor a o (a 4)) 16384)), (4, .int (nI i))]) hx hb dX2_bestLook_119 rfl hl (by decide) rfl (fun ls hl => ?_)
                refine lv_iinc (v := (nI (i + 1))) (lv' := [(4, .int (nI (i + 1))), (3, .int ((xCnt (xFor a o (a 4)) 16384) - ((iUp (xNw a o (a 4)) mn n) i))), (2, .int (nI i)), (5, .int ((xCnt (xFor a o (a 4)) 16384) - ((iUp (xNw a o (a 4)) mn n) i))), (0, .ref hM), (1, .int (xCnt (xFor a o (a 4)) 16384))]) hx hb dX2_bestLook_120 hl (k := 5) rfl (nI_1 i) (by decide) rfl (fun ls hl => ?_)
                refine lv_goto (tgt := 33) hx hb dX2_bestLook_123 (by decide) ?_
                have eb_0 : (xBl a (iUp (xNw a o (a 4)) mn n) (xCnt (xFor a o (a 4)) 16384) (i + 1)).1 = (nI i) := by (first | rfl | (simp only [xBl, bI, c_1, c_3, c_4, c_5, c_6, c_7, eq_self, ↓reduceIte]; done) | (simp only [xBl, bI, c_1, c_3, c_4, c_5, c_6, c_7, eq_self, ↓reduceIte]; rfl) | (simp only [xBl, bI, c_1, c_3, c_4, c_5, c_6, eq_true c_7, eq_self, ↓reduceIte]; done) | (simp only [xBl, bI, c_1, c_3, c_4, c_5, c_6, eq_true c_7, eq_self, ↓reduceIte]; rfl) | (simp [xBl, bI, c_1, c_3, c_4, c_5, c_6, eq_true c_7]; done) | simp [xBl, bI, c_1, c_3, c_4, c_5, c_6, c_7])
                have eb_1 : (xBl a (iUp (xNw a o (a 4)) mn n) (xCnt (xFor a o (a 4)) 16384) (i + 1)).2 = ((xCnt (xFor a o (a 4)) 16384) - ((iUp (xNw a o (a 4)) mn n) i)) := by (first | rfl | (simp only [xBl, bI, c_1, c_3, c_4, c_5, c_6, c_7, eq_self, ↓reduceIte]; done) | (simp only [xBl, bI, c_1, c_3, c_4, c_5, c_6, c_7, eq_self, ↓reduceIte]; rfl) | (simp only [xBl, bI, c_1, c_3, c_4, c_5, c_6, eq_true c_7, eq_self, ↓reduceIte]; done) | (simp only [xBl, bI, c_1, c_3, c_4, c_5, c_6, eq_true c_7, eq_self, ↓reduceIte]; rfl) | (simp [xBl, bI, c_1, c_3, c_4, c_5, c_6, eq_true c_7]; done) | simp [xBl, bI, c_1, c_3, c_4, c_5, c_6, c_7])
                exact ih_i (by omega) trivial ls (by show lv_has ls 6 [(0, .ref hM), (1, .int (xCnt (xFor a o (a 4)) 16384)), (2, .int ((xBl a (iUp (xNw a o (a 4)) mn n) (xCnt (xFor a o (a 4)) 16384) (i + 1)).1)), (3, .int ((xBl a (iUp (xNw a o (a 4)) mn n) (xCnt (xFor a o (a 4)) 16384) (i + 1)).2)), (4, .int (nI (i + 1)))]; rw [eb_0]; rw [eb_1]; exact lv_sub hl [4, 5, 2, 1, 0] rfl)
              · refine lv_iload hx hb dX2_bestLook_108 (lv_at hl 0 rfl) ?_
                refine lv_iload_n hx hb dX2_bestLook_110 rfl (lv_at hl 4 rfl) ?_
                refine lv_icmp_ge (tgt := 120) hx hb dX2_bestLook_111 (by decide) (fun c_8 => ?_) (fun c_8 => ?_)
                · refine lv_iinc (v := (nI (i + 1))) (lv' := [(4, .int (nI (i + 1))), (5, .int ((xCnt (xFor a o (a 4)) 16384) - ((iUp (xNw a o (a 4)) mn n) i))), (0, .ref hM), (1, .int (xCnt (xFor a o (a 4)) 16384)), (2, .int ((xBl a (iUp (xNw a o (a 4)) mn n) (xCnt (xFor a o (a 4)) 16384) i).1)), (3, .int ((xBl a (iUp (xNw a o (a 4)) mn n) (xCnt (xFor a o (a 4)) 16384) i).2))]) hx hb dX2_bestLook_120 hl (k := 5) rfl (nI_1 i) (by decide) rfl (fun ls hl => ?_)
                  refine lv_goto (tgt := 33) hx hb dX2_bestLook_123 (by decide) ?_
                  have eb_0 : (xBl a (iUp (xNw a o (a 4)) mn n) (xCnt (xFor a o (a 4)) 16384) (i + 1)).1 = (xBl a (iUp (xNw a o (a 4)) mn n) (xCnt (xFor a o (a 4)) 16384) i).1 := by (first | rfl | (simp only [xBl, bI, c_1, c_3, c_4, c_5, c_6, c_7, c_8, eq_self, ↓reduceIte]; done) | (simp only [xBl, bI, c_1, c_3, c_4, c_5, c_6, c_7, c_8, eq_self, ↓reduceIte]; rfl) | simp [xBl, bI, c_1, c_3, c_4, c_5, c_6, c_7, c_8])
                  have eb_1 : (xBl a (iUp (xNw a o (a 4)) mn n) (xCnt (xFor a o (a 4)) 16384) (i + 1)).2 = (xBl a (iUp (xNw a o (a 4)) mn n) (xCnt (xFor a o (a 4)) 16384) i).2 := by (first | rfl | (simp only [xBl, bI, c_1, c_3, c_4, c_5, c_6, c_7, c_8, eq_self, ↓reduceIte]; done) | (simp only [xBl, bI, c_1, c_3, c_4, c_5, c_6, c_7, c_8, eq_self, ↓reduceIte]; rfl) | simp [xBl, bI, c_1, c_3, c_4, c_5, c_6, c_7, c_8])
                  exact ih_i (by omega) trivial ls (by show lv_has ls 6 [(0, .ref hM), (1, .int (xCnt (xFor a o (a 4)) 16384)), (2, .int ((xBl a (iUp (xNw a o (a 4)) mn n) (xCnt (xFor a o (a 4)) 16384) (i + 1)).1)), (3, .int ((xBl a (iUp (xNw a o (a 4)) mn n) (xCnt (xFor a o (a 4)) 16384) (i + 1)).2)), (4, .int (nI (i + 1)))]; rw [eb_0]; rw [eb_1]; exact lv_sub hl [2, 3, 4, 5, 0] rfl)
                · refine lv_iload hx hb dX2_bestLook_114 (lv_at hl 5 rfl) ?_
                  refine lv_istore_n (lv' := [(2, .int (nI i)), (5, .int ((xCnt (xFor a o (a 4)) 16384) - ((iUp (xNw a o (a 4)) mn n) i))), (0, .ref hM), (1, .int (xCnt (xFor a o (a 4)) 16384)), (3, .int ((xBl a (iUp (xNw a o (a 4)) mn n) (xCnt (xFor a o (a 4)) 16384) i).2)), (4, .int (nI i))]) hx hb dX2_bestLook_116 rfl hl (by decide) rfl (fun ls hl => ?_)
                  refine lv_iload hx hb dX2_bestLook_117 (lv_at hl 1 rfl) ?_
                  refine lv_istore_n (lv' := [(3, .int ((xCnt (xFor a o (a 4)) 16384) - ((iUp (xNw a o (a 4)) mn n) i))), (2, .int (nI i)), (5, .int ((xCnt (xFor a o (a 4)) 16384) - ((iUp (xNw a o (a 4)) mn n) i))), (0, .ref hM), (1, .int (xCnt (xFor a o (a 4)) 16384)), (4, .int (nI i))]) hx hb dX2_bestLook_119 rfl hl (by decide) rfl (fun ls hl => ?_)
                  refine lv_iinc (v := (nI (i + 1))) (lv' := [(4, .int (nI (i + 1))), (3, .int ((xCnt (xFor a o (a 4)) 16384) - ((iUp (xNw a o (a 4)) mn n) i))), (2, .int (nI i)), (5, .int ((xCnt (xFor a o (a 4)) 16384) - ((iUp (xNw a o (a 4)) mn n) i))), (0, .ref hM), (1, .int (xCnt (xFor a o (a 4)) 16384))]) hx hb dX2_bestLook_120 hl (k := 5) rfl (nI_1 i) (by decide) rfl (fun ls hl => ?_)
                  refine lv_goto (tgt := 33) hx hb dX2_bestLook_123 (by decide) ?_
                  have eb_0 : (xBl a (iUp (xNw a o (a 4)) mn n) (xCnt (xFor a o (a 4)) 16384) (i + 1)).1 = (nI i) := by (first | rfl | (simp only [xBl, bI, c_1, c_3, c_4, c_5, c_6, c_7, c_8, eq_self, ↓reduceIte]; done) | (simp only [xBl, bI, c_1, c_3, c_4, c_5, c_6, c_7, c_8, eq_self, ↓reduceIte]; rfl) | simp [xBl, bI, c_1, c_3, c_4, c_5, c_6, c_7, c_8])
                  have eb_1 : (xBl a (iUp (xNw a o (a 4)) mn n) (xCnt (xFor a o (a 4)) 16384) (i + 1)).2 = ((xCnt (xFor a o (a 4)) 16384) - ((iUp (xNw a o (a 4)) mn n) i)) := by (first | rfl | (simp only [xBl, bI, c_1, c_3, c_4, c_5, c_6, c_7, c_8, eq_self, ↓reduceIte]; done) | (simp only [xBl, bI, c_1, c_3, c_4, c_5, c_6, c_7, c_8, eq_self, ↓reduceIte]; rfl) | simp [xBl, bI, c_1, c_3, c_4, c_5, c_6, c_7, c_8])
                  exact ih_i (by omega) trivial ls (by show lv_has ls 6 [(0, .ref hM), (1, .int (xCnt (xFor a o (a 4)) 16384)), (2, .int ((xBl a (iUp (xNw a o (a 4)) mn n) (xCnt (xFor a o (a 4)) 16384) (i + 1)).1)), (3, .int ((xBl a (iUp (xNw a o (a 4)) mn n) (xCnt (xFor a o (a 4)) 16384) (i + 1)).2)), (4, .int (nI (i + 1)))]; rw [eb_0]; rw [eb_1]; exact lv_sub hl [4, 5, 2, 1, 0] rfl)
        · refine lv_aload_n hx hb dX2_bestLook_61 rfl (lv_at hl 0 rfl) ?_
          refine va_get (D := D) (cl := vwCl) (ci := 2) (v := .ref hY) (C := RX2) (T := TX2) (N := 16) hx hb hts in_X2_bestLook_X2 hown hK hP 0 rfl rfl 15 (by decide) (hts (.fieldLink RX2 17 "WitchTrialModel" "many" "[I") (List.mem_of_getElem? (i := 3) rfl)) (fun _ h9 => h9) rfl dX2_bestLook_62 ?_
          refine lv_iload hx hb dX2_bestLook_65 (lv_at hl 4 rfl) ?_
          refine q_iald (D := D) (j := i) (v := ((iUp (xNw a o (a 4)) mn n) i)) hx hb hK hP 2 0 rfl rfl (by omega) (Nat.le_of_ble_eq_true rfl) rfl dX2_bestLook_67 ?_
          refine lv_goto (tgt := 80) hx hb dX2_bestLook_68 (by decide) ?_
          refine lv_istore (lv' := [(5, .int ((iUp (xNw a o (a 4)) mn n) i)), (0, .ref hM), (1, .int (xCnt (xFor a o (a 4)) 16384)), (2, .int ((xBl a (iUp (xNw a o (a 4)) mn n) (xCnt (xFor a o (a 4)) 16384) i).1)), (3, .int ((xBl a (iUp (xNw a o (a 4)) mn n) (xCnt (xFor a o (a 4)) 16384) i).2)), (4, .int (nI i))]) hx hb dX2_bestLook_80 hl (by decide) rfl (fun ls hl => ?_)
          refine lv_aload_n hx hb dX2_bestLook_82 rfl (lv_at hl 1 rfl) ?_
          refine va_get (D := D) (cl := vwCl) (ci := 2) (v := .int (a 6)) (C := RX2) (T := TX2) (N := 16) hx hb hts in_X2_bestLook_X2 hown hK hP 0 rfl rfl 7 (by decide) (hts (.fieldLink RX2 67 "WitchTrialModel" "alive" "I") (List.mem_of_getElem? (i := 4) rfl)) (fun _ h9 => h9) rfl dX2_bestLook_83 ?_
          refine lv_iload hx hb dX2_bestLook_86 (lv_at hl 5 rfl) ?_
          refine rd_S (As := [.int (a 6), .int (nI i)]) (rest := []) ⟨hx, hb, hml, hown, hts⟩ (c_X2_has l D cI cZ cJ (a 6) (nI i)) (va_cwS 2 hts gX2_bestLook_X2_has rfl rfl rfl (by decide +kernel) ⟨Nat.le_of_ble_eq_true rfl, Nat.le_of_ble_eq_true rfl⟩) (hP.sub (ws' := []) [] rfl) hK hN rfl hl.1 rfl (Nat.le_of_ble_eq_true rfl) dX2_bestLook_88 ⟨Nat.le_of_ble_eq_true rfl, Nat.le_of_ble_eq_true rfl⟩ ?_
          refine lv_if_eq (tgt := 120) hx hb dX2_bestLook_91 (by decide) (fun c_9 => ?_) (fun c_9 => ?_)
          · have c_9 : (xHas (a 6) (nI i)) = false := bI_0 c_9
            refine lv_iinc (v := (nI (i + 1))) (lv' := [(4, .int (nI (i + 1))), (5, .int ((iUp (xNw a o (a 4)) mn n) i)), (0, .ref hM), (1, .int (xCnt (xFor a o (a 4)) 16384)), (2, .int ((xBl a (iUp (xNw a o (a 4)) mn n) (xCnt (xFor a o (a 4)) 16384) i).1)), (3, .int ((xBl a (iUp (xNw a o (a 4)) mn n) (xCnt (xFor a o (a 4)) 16384) i).2))]) hx hb dX2_bestLook_120 hl (k := 5) rfl (nI_1 i) (by decide) rfl (fun ls hl => ?_)
            refine lv_goto (tgt := 33) hx hb dX2_bestLook_123 (by decide) ?_
            have eb_0 : (xBl a (iUp (xNw a o (a 4)) mn n) (xCnt (xFor a o (a 4)) 16384) (i + 1)).1 = (xBl a (iUp (xNw a o (a 4)) mn n) (xCnt (xFor a o (a 4)) 16384) i).1 := by (first | rfl | (simp only [xBl, bI, c_1, c_3, c_4, c_9, eq_self, ↓reduceIte]; done) | (simp only [xBl, bI, c_1, c_3, c_4, c_9, eq_self, ↓reduceIte]; rfl) | simp [xBl, bI, c_1, c_3, c_4, c_9])
            have eb_1 : (xBl a (iUp (xNw a o (a 4)) mn n) (xCnt (xFor a o (a 4)) 16384) (i + 1)).2 = (xBl a (iUp (xNw a o (a 4)) mn n) (xCnt (xFor a o (a 4)) 16384) i).2 := by (first | rfl | (simp only [xBl, bI, c_1, c_3, c_4, c_9, eq_self, ↓reduceIte]; done) | (simp only [xBl, bI, c_1, c_3, c_4, c_9, eq_self, ↓reduceIte]; rfl) | simp [xBl, bI, c_1, c_3, c_4, c_9])
            exact ih_i (by omega) trivial ls (by show lv_has ls 6 [(0, .ref hM), (1, .int (xCnt (xFor a o (a 4)) 16384)), (2, .int ((xBl a (iUp (xNw a o (a 4)) mn n) (xCnt (xFor a o (a 4)) 16384) (i + 1)).1)), (3, .int ((xBl a (iUp (xNw a o (a 4)) mn n) (xCnt (xFor a o (a 4)) 16384) (i + 1)).2)), (4, .int (nI (i + 1)))]; rw [eb_0]; rw [eb_1]; exact lv_sub hl [2, 3, 4, 5, 0] rfl)
          · have c_9 : (xHas (a 6) (nI i)) = true := bI_1 c_9
            refine lv_iload hx hb dX2_bestLook_94 (lv_at hl 5 rfl) ?_
            refine lv_aload_n hx hb dX2_bestLook_96 rfl (lv_at hl 1 rfl) ?_
            refine va_get (D := D) (cl := vwCl) (ci := 2) (v := .int (a 4)) (C := RX2) (T := TX2) (N := 16) hx hb hts in_X2_bestLook_X2 hown hK hP 0 rfl rfl 4 (by decide) (hts (.fieldLink RX2 46 "WitchTrialModel" "seer" "I") (List.mem_of_getElem? (i := 1) rfl)) (fun _ h9 => h9) rfl dX2_bestLook_97 ?_
            refine lv_icmp_eq (tgt := 120) hx hb dX2_bestLook_100 (by decide) (fun c_10 => ?_) (fun c_10 => ?_)
            · refine lv_iinc (v := (nI (i + 1))) (lv' := [(4, .int (nI (i + 1))), (5, .int ((iUp (xNw a o (a 4)) mn n) i)), (0, .ref hM), (1, .int (xCnt (xFor a o (a 4)) 16384)), (2, .int ((xBl a (iUp (xNw a o (a 4)) mn n) (xCnt (xFor a o (a 4)) 16384) i).1)), (3, .int ((xBl a (iUp (xNw a o (a 4)) mn n) (xCnt (xFor a o (a 4)) 16384) i).2))]) hx hb dX2_bestLook_120 hl (k := 5) rfl (nI_1 i) (by decide) rfl (fun ls hl => ?_)
              refine lv_goto (tgt := 33) hx hb dX2_bestLook_123 (by decide) ?_
              have eb_0 : (xBl a (iUp (xNw a o (a 4)) mn n) (xCnt (xFor a o (a 4)) 16384) (i + 1)).1 = (xBl a (iUp (xNw a o (a 4)) mn n) (xCnt (xFor a o (a 4)) 16384) i).1 := by (first | rfl | (simp only [xBl, bI, c_1, c_3, c_4, c_9, c_10, eq_self, ↓reduceIte]; done) | (simp only [xBl, bI, c_1, c_3, c_4, c_9, c_10, eq_self, ↓reduceIte]; rfl) | (simp only [xBl, bI, c_1, c_3, c_4, c_9, eq_true c_10, eq_self, ↓reduceIte]; done) | (simp only [xBl, bI, c_1, c_3, c_4, c_9, eq_true c_10, eq_self, ↓reduceIte]; rfl) | (simp [xBl, bI, c_1, c_3, c_4, c_9, eq_true c_10]; done) | simp [xBl, bI, c_1, c_3, c_4, c_9, c_10])
              have eb_1 : (xBl a (iUp (xNw a o (a 4)) mn n) (xCnt (xFor a o (a 4)) 16384) (i + 1)).2 = (xBl a (iUp (xNw a o (a 4)) mn n) (xCnt (xFor a o (a 4)) 16384) i).2 := by (first | rfl | (simp only [xBl, bI, c_1, c_3, c_4, c_9, c_10, eq_self, ↓reduceIte]; done) | (simp only [xBl, bI, c_1, c_3, c_4, c_9, c_10, eq_self, ↓reduceIte]; rfl) | (simp only [xBl, bI, c_1, c_3, c_4, c_9, eq_true c_10, eq_self, ↓reduceIte]; done) | (simp only [xBl, bI, c_1, c_3, c_4, c_9, eq_true c_10, eq_self, ↓reduceIte]; rfl) | (simp [xBl, bI, c_1, c_3, c_4, c_9, eq_true c_10]; done) | simp [xBl, bI, c_1, c_3, c_4, c_9, c_10])
              exact ih_i (by omega) trivial ls (by show lv_has ls 6 [(0, .ref hM), (1, .int (xCnt (xFor a o (a 4)) 16384)), (2, .int ((xBl a (iUp (xNw a o (a 4)) mn n) (xCnt (xFor a o (a 4)) 16384) (i + 1)).1)), (3, .int ((xBl a (iUp (xNw a o (a 4)) mn n) (xCnt (xFor a o (a 4)) 16384) (i + 1)).2)), (4, .int (nI (i + 1)))]; rw [eb_0]; rw [eb_1]; exact lv_sub hl [2, 3, 4, 5, 0] rfl)
            · refine lv_iload_n hx hb dX2_bestLook_103 rfl (lv_at hl 3 rfl) ?_
              refine lv_iconst (v := (-1)) hx hb dX2_bestLook_104 (by decide) ?_
              refine lv_icmp_eq (tgt := 114) hx hb dX2_bestLook_105 (by decide) (fun c_11 => ?_) (fun c_11 => ?_)
              · refine lv_iload hx hb dX2_bestLook_114 (lv_at hl 5 rfl) ?_
                refine lv_istore_n (lv' := [(2, .int (nI i)), (5, .int ((iUp (xNw a o (a 4)) mn n) i)), (0, .ref hM), (1, .int (xCnt (xFor a o (a 4)) 16384)), (3, .int ((xBl a (iUp (xNw a o (a 4)) mn n) (xCnt (xFor a o (a 4)) 16384) i).2)), (4, .int (nI i))]) hx hb dX2_bestLook_116 rfl hl (by decide) rfl (fun ls hl => ?_)
                refine lv_iload hx hb dX2_bestLook_117 (lv_at hl 1 rfl) ?_
                refine lv_istore_n (lv' := [(3, .int ((iUp (xNw a o (a 4)) mn n) i)), (2, .int (nI i)), (5, .int ((iUp (xNw a o (a 4)) mn n) i)), (0, .ref hM), (1, .int (xCnt (xFor a o (a 4)) 16384)), (4, .int (nI i))]) hx hb dX2_bestLook_119 rfl hl (by decide) rfl (fun ls hl => ?_)
                refine lv_iinc (v := (nI (i + 1))) (lv' := [(4, .int (nI (i + 1))), (3, .int ((iUp (xNw a o (a 4)) mn n) i)), (2, .int (nI i)), (5, .int ((iUp (xNw a o (a 4)) mn n) i)), (0, .ref hM), (1, .int (xCnt (xFor a o (a 4)) 16384))]) hx hb dX2_bestLook_120 hl (k := 5) rfl (nI_1 i) (by decide) rfl (fun ls hl => ?_)
                refine lv_goto (tgt := 33) hx hb dX2_bestLook_123 (by decide) ?_
                have eb_0 : (xBl a (iUp (xNw a o (a 4)) mn n) (xCnt (xFor a o (a 4)) 16384) (i + 1)).1 = (nI i) := by (first | rfl | (simp only [xBl, bI, c_1, c_3, c_4, c_9, c_10, c_11, eq_self, ↓reduceIte]; done) | (simp only [xBl, bI, c_1, c_3, c_4, c_9, c_10, c_11, eq_self, ↓reduceIte]; rfl) | (simp only [xBl, bI, c_1, c_3, c_4, c_9, c_10, eq_true c_11, eq_self, ↓reduceIte]; done) | (simp only [xBl, bI, c_1, c_3, c_4, c_9, c_10, eq_true c_11, eq_self, ↓reduceIte]; rfl) | (simp [xBl, bI, c_1, c_3, c_4, c_9, c_10, eq_true c_11]; done) | simp [xBl, bI, c_1, c_3, c_4, c_9, c_10, c_11])
                have eb_1 : (xBl a (iUp (xNw a o (a 4)) mn n) (xCnt (xFor a o (a 4)) 16384) (i + 1)).2 = ((iUp (xNw a o (a 4)) mn n) i) := by (first | rfl | (simp only [xBl, bI, c_1, c_3, c_4, c_9, c_10, c_11, eq_self, ↓reduceIte]; done) | (simp only [xBl, bI, c_1, c_3, c_4, c_9, c_10, c_11, eq_self, ↓reduceIte]; rfl) | (simp only [xBl, bI, c_1, c_3, c_4, c_9, c_10, eq_true c_11, eq_self, ↓reduceIte]; done) | (simp only [xBl, bI, c_1, c_3, c_4, c_9, c_10, eq_true c_11, eq_self, ↓reduceIte]; rfl) | (simp [xBl, bI, c_1, c_3, c_4, c_9, c_10, eq_true c_11]; done) | simp [xBl, bI, c_1, c_3, c_4, c_9, c_10, c_11])
                exact ih_i (by omega) trivial ls (by show lv_has ls 6 [(0, .ref hM), (1, .int (xCnt (xFor a o (a 4)) 16384)), (2, .int ((xBl a (iUp (xNw a o (a 4)) mn n) (xCnt (xFor a o (a 4)) 16384) (i + 1)).1)), (3, .int ((xBl a (iUp (xNw a o (a 4)) mn n) (xCnt (xFor a o (a 4)) 16384) (i + 1)).2)), (4, .int (nI (i + 1)))]; rw [eb_0]; rw [eb_1]; exact lv_sub hl [4, 5, 2, 1, 0] rfl)
              · refine lv_iload hx hb dX2_bestLook_108 (lv_at hl 0 rfl) ?_
                refine lv_iload_n hx hb dX2_bestLook_110 rfl (lv_at hl 4 rfl) ?_
                refine lv_icmp_ge (tgt := 120) hx hb dX2_bestLook_111 (by decide) (fun c_12 => ?_) (fun c_12 => ?_)
                · refine lv_iinc (v := (nI (i + 1))) (lv' := [(4, .int (nI (i + 1))), (5, .int ((iUp (xNw a o (a 4)) mn n) i)), (0, .ref hM), (1, .int (xCnt (xFor a o (a 4)) 16384)), (2, .int ((xBl a (iUp (xNw a o (a 4)) mn n) (xCnt (xFor a o (a 4)) 16384) i).1)), (3, .int ((xBl a (iUp (xNw a o (a 4)) mn n) (xCnt (xFor a o (a 4)) 16384) i).2))]) hx hb dX2_bestLook_120 hl (k := 5) rfl (nI_1 i) (by decide) rfl (fun ls hl => ?_)
                  refine lv_goto (tgt := 33) hx hb dX2_bestLook_123 (by decide) ?_
                  have eb_0 : (xBl a (iUp (xNw a o (a 4)) mn n) (xCnt (xFor a o (a 4)) 16384) (i + 1)).1 = (xBl a (iUp (xNw a o (a 4)) mn n) (xCnt (xFor a o (a 4)) 16384) i).1 := by (first | rfl | (simp only [xBl, bI, c_1, c_3, c_4, c_9, c_10, c_11, c_12, eq_self, ↓reduceIte]; done) | (simp only [xBl, bI, c_1, c_3, c_4, c_9, c_10, c_11, c_12, eq_self, ↓reduceIte]; rfl) | simp [xBl, bI, c_1, c_3, c_4, c_9, c_10, c_11, c_12])
                  have eb_1 : (xBl a (iUp (xNw a o (a 4)) mn n) (xCnt (xFor a o (a 4)) 16384) (i + 1)).2 = (xBl a (iUp (xNw a o (a 4)) mn n) (xCnt (xFor a o (a 4)) 16384) i).2 := by (first | rfl | (simp only [xBl, bI, c_1, c_3, c_4, c_9, c_10, c_11, c_12, eq_self, ↓reduceIte]; done) | (simp only [xBl, bI, c_1, c_3, c_4, c_9, c_10, c_11, c_12, eq_self, ↓reduceIte]; rfl) | simp [xBl, bI, c_1, c_3, c_4, c_9, c_10, c_11, c_12])
                  exact ih_i (by omega) trivial ls (by show lv_has ls 6 [(0, .ref hM), (1, .int (xCnt (xFor a o (a 4)) 16384)), (2, .int ((xBl a (iUp (xNw a o (a 4)) mn n) (xCnt (xFor a o (a 4)) 16384) (i + 1)).1)), (3, .int ((xBl a (iUp (xNw a o (a 4)) mn n) (xCnt (xFor a o (a 4)) 16384) (i + 1)).2)), (4, .int (nI (i + 1)))]; rw [eb_0]; rw [eb_1]; exact lv_sub hl [2, 3, 4, 5, 0] rfl)
                · refine lv_iload hx hb dX2_bestLook_114 (lv_at hl 5 rfl) ?_
                  refine lv_istore_n (lv' := [(2, .int (nI i)), (5, .int ((iUp (xNw a o (a 4)) mn n) i)), (0, .ref hM), (1, .int (xCnt (xFor a o (a 4)) 16384)), (3, .int ((xBl a (iUp (xNw a o (a 4)) mn n) (xCnt (xFor a o (a 4)) 16384) i).2)), (4, .int (nI i))]) hx hb dX2_bestLook_116 rfl hl (by decide) rfl (fun ls hl => ?_)
                  refine lv_iload hx hb dX2_bestLook_117 (lv_at hl 1 rfl) ?_
                  refine lv_istore_n (lv' := [(3, .int ((iUp (xNw a o (a 4)) mn n) i)), (2, .int (nI i)), (5, .int ((iUp (xNw a o (a 4)) mn n) i)), (0, .ref hM), (1, .int (xCnt (xFor a o (a 4)) 16384)), (4, .int (nI i))]) hx hb dX2_bestLook_119 rfl hl (by decide) rfl (fun ls hl => ?_)
                  refine lv_iinc (v := (nI (i + 1))) (lv' := [(4, .int (nI (i + 1))), (3, .int ((iUp (xNw a o (a 4)) mn n) i)), (2, .int (nI i)), (5, .int ((iUp (xNw a o (a 4)) mn n) i)), (0, .ref hM), (1, .int (xCnt (xFor a o (a 4)) 16384))]) hx hb dX2_bestLook_120 hl (k := 5) rfl (nI_1 i) (by decide) rfl (fun ls hl => ?_)
                  refine lv_goto (tgt := 33) hx hb dX2_bestLook_123 (by decide) ?_
                  have eb_0 : (xBl a (iUp (xNw a o (a 4)) mn n) (xCnt (xFor a o (a 4)) 16384) (i + 1)).1 = (nI i) := by (first | rfl | (simp only [xBl, bI, c_1, c_3, c_4, c_9, c_10, c_11, c_12, eq_self, ↓reduceIte]; done) | (simp only [xBl, bI, c_1, c_3, c_4, c_9, c_10, c_11, c_12, eq_self, ↓reduceIte]; rfl) | simp [xBl, bI, c_1, c_3, c_4, c_9, c_10, c_11, c_12])
                  have eb_1 : (xBl a (iUp (xNw a o (a 4)) mn n) (xCnt (xFor a o (a 4)) 16384) (i + 1)).2 = ((iUp (xNw a o (a 4)) mn n) i) := by (first | rfl | (simp only [xBl, bI, c_1, c_3, c_4, c_9, c_10, c_11, c_12, eq_self, ↓reduceIte]; done) | (simp only [xBl, bI, c_1, c_3, c_4, c_9, c_10, c_11, c_12, eq_self, ↓reduceIte]; rfl) | simp [xBl, bI, c_1, c_3, c_4, c_9, c_10, c_11, c_12])
                  exact ih_i (by omega) trivial ls (by show lv_has ls 6 [(0, .ref hM), (1, .int (xCnt (xFor a o (a 4)) 16384)), (2, .int ((xBl a (iUp (xNw a o (a 4)) mn n) (xCnt (xFor a o (a 4)) 16384) (i + 1)).1)), (3, .int ((xBl a (iUp (xNw a o (a 4)) mn n) (xCnt (xFor a o (a 4)) 16384) (i + 1)).2)), (4, .int (nI (i + 1)))]; rw [eb_0]; rw [eb_1]; exact lv_sub hl [4, 5, 2, 1, 0] rfl)
    · show lv_has ls 6 [(0, .ref hM), (1, .int (xCnt (xFor a o (a 4)) 16384)), (2, .int ((xBl a (iUp (xNw a o (a 4)) mn n) (xCnt (xFor a o (a 4)) 16384) 0).1)), (3, .int ((xBl a (iUp (xNw a o (a 4)) mn n) (xCnt (xFor a o (a 4)) 16384) 0).2)), (4, .int (nI 0))]
      have en_0 : (xBl a (iUp (xNw a o (a 4)) mn n) (xCnt (xFor a o (a 4)) 16384) 0).1 = (-1) := by rfl
      rw [en_0]
      have en_1 : (xBl a (iUp (xNw a o (a 4)) mn n) (xCnt (xFor a o (a 4)) 16384) 0).2 = 0 := by rfl
      rw [en_1]
      have en_2 : (nI 0) = 0 := by exact nI_0
      rw [en_2]
      exact lv_sub hl [4, 3, 2, 1, 0] rfl
  · have c_1 : (xGm a) = false := bI_0 c_1
    simp [hk] at c_1

set_option maxHeartbeats 2000000 in
set_option maxRecDepth 100000 in
theorem f_X2_bestLook (l : Launch) (D : va_G) (cI cZ cJ : ClassId) (sz : Nat) (hM : Nat) (hO : Nat) (hW : Nat) (hY : Nat) (th : Int32) (a : Nat → Int32) (hk : ¬ xGm a = true) : Mi l D cI cZ cJ yX2_bestLook wsX2_bestLook 1 20 sz [.ref hM] [cM hM hO hW hY th a] [cM hM hO hW hY (kGm a) a] (0) := by
  refine mi_of (by decide) rfl (Nat.le_of_ble_eq_true rfl) (fun p e s m below meth c ls A hx hb hr hml hts hown hlocks hin hP hK hN hD hA hS hl => ?_)
  have hl : lv_has ls 6 [(0, .ref hM)] := hl
  refine lv_aload_n hx hb dX2_bestLook_0 rfl (lv_at hl 0 rfl) ?_
  refine mi_V (b := hM) (As := []) (rest := []) (W2 := [cM hM hO hW hY (kGm a) a]) ⟨hx, hb, hml, hown, hts⟩ (c_X2_isGame l D cI cZ cJ _ hM hO hW hY th a) (cwV 0 hts gX2_bestLook_X2_isGame rfl rfl rfl (by decide +kernel) ⟨Nat.le_of_ble_eq_true rfl, Nat.le_of_ble_eq_true rfl⟩) hP hD hK hN hS hA (va_recv hK hP (ci := 2) (q0 := 0) rfl rfl) rfl hl.1 rfl (Nat.le_of_ble_eq_true rfl) dX2_bestLook_1 ⟨Nat.le_of_ble_eq_true rfl, Nat.le_of_ble_eq_true rfl⟩ [0] [] rfl rfl rfl (fun i hi => nomatch hi) rfl 1 rfl (by decide) (by decide) (fun H locs hP hD hS => ?_)
  refine lv_if_ne (tgt := 9) hx hb dX2_bestLook_4 (by decide) (fun c_1 => ?_) (fun c_1 => ?_)
  · have c_1 : (xGm a) = true := bI_1 c_1
    simp [hk] at c_1
  · have c_1 : (xGm a) = false := bI_0 c_1
    refine lv_iconst (v := 0) hx hb dX2_bestLook_7 (by decide) ?_
    have hP9 : va_P D vwCl [cM hM hO hW hY (kGm a) a] H := by
      exact hP
    exact mi_iret hx hb hr hlocks hS (by rfl) hP9 dX2_bestLook_8

theorem in_X2_isPossible_X2 : ∀ w ∈ wsX20, w ∈ wsX2_isPossible := by decide +kernel
set_option maxHeartbeats 2000000 in
set_option maxRecDepth 100000 in
theorem f_X2_isPossible (l : Launch) (D : va_G) (cI cZ cJ : ClassId) (sz : Nat) (hM : Nat) (hO : Nat) (hW : Nat) (hY : Nat) (th : Int32) (a : Nat → Int32) (q : Int32) (t : Int32) (r : Int32) (u : Int32) (hk : ¬ kPo a q r u = 0) : Mi l D cI cZ cJ yX2_isPossible wsX2_isPossible 3 64 sz [.ref hM, .int q, .int t, .int r, .int u] [cM hM hO hW hY th a] [cM hM hO hW hY (kPo a q r u) a] (bI false) := by
  refine mi_of (by decide) rfl (Nat.le_of_ble_eq_true rfl) (fun p e s m below meth c ls A hx hb hr hml hts hown hlocks hin hP hK hN hD hA hS hl => ?_)
  have hl : lv_has ls 6 [(0, .ref hM), (1, .int q), (2, .int t), (3, .int r), (4, .int u)] := hl
  refine lv_aload_n hx hb dX2_isPossible_0 rfl (lv_at hl 0 rfl) ?_
  refine lv_aload_n hx hb dX2_isPossible_1 rfl (lv_at hl 0 rfl) ?_
  refine va_get (D := D) (cl := vwCl) (ci := 2) (v := .int (a 0)) (C := RX2) (T := TX2) (N := 16) hx hb hts in_X2_isPossible_X2 hown hK hP 0 rfl rfl 1 (by decide) (hts (.fieldLink RX2 70 "WitchTrialModel" "phase" "I") (List.mem_of_getElem? (i := 1) rfl)) (fun _ h9 => h9) rfl dX2_isPossible_2 ?_
  refine lv_if_ne (tgt := 12) hx hb dX2_isPossible_5 (by decide) (fun c_1 => ?_) (fun c_1 => ?_)
  · refine lv_aload_n hx hb dX2_isPossible_12 rfl (lv_at hl 0 rfl) ?_
    refine lv_iload_n hx hb dX2_isPossible_13 rfl (lv_at hl 1 rfl) ?_
    refine rd_V (b := hM) (As := [.int q]) (rest := [.ref hM]) ⟨hx, hb, hml, hown, hts⟩ (c_X2_isViewer l D cI cZ cJ hM hO hW hY th a q) (cwV 1 hts gX2_isPossible_X2_isViewer rfl rfl rfl (by decide +kernel) ⟨Nat.le_of_ble_eq_true rfl, Nat.le_of_ble_eq_true rfl⟩) (hP.sub (ws' := [cM hM hO hW hY th a]) [0] rfl) hK hN (va_recv hK hP (ci := 2) (q0 := 0) rfl rfl) rfl hl.1 rfl (Nat.le_of_ble_eq_true rfl) dX2_isPossible_14 ⟨Nat.le_of_ble_eq_true rfl, Nat.le_of_ble_eq_true rfl⟩ ?_
    refine lv_if_eq (tgt := 41) hx hb dX2_isPossible_17 (by decide) (fun c_2 => ?_) (fun c_2 => ?_)
    · have c_2 : (xVw a q) = false := bI_0 c_2
      refine lv_iconst (v := 2) hx hb dX2_isPossible_41 (by decide) ?_
      refine va_put (D := D) (cl := vwCl) (ci := 2) (v := .int 2) (ty := .int) (C := RX2) (T := TX2) (N := 16) hx hb hts in_X2_isPossible_X2 tyX2 tyX2_ok nmX2 hown hK hP hD hS 0 rfl rfl 0 (by decide) (hts (.fieldLink RX2 20 "WitchTrialModel" "thrown" "I") (List.mem_of_getElem? (i := 2) rfl)) (fun _ h9 => h9) rfl (by decide +kernel) rfl rfl (Nat.le_of_ble_eq_true rfl) dX2_isPossible_42 (fun H locs hP hD hS => ?_)
      have hP : va_P D vwCl [cM hM hO hW hY 2 a] H := hP
      have hD : va_D A [cM hM hO hW hY 2 a] := hD
      refine lv_aload_n hx hb dX2_isPossible_45 rfl (lv_at hl 0 rfl) ?_
      refine va_get (D := D) (cl := vwCl) (ci := 2) (v := .int 2) (C := RX2) (T := TX2) (N := 16) hx hb hts in_X2_isPossible_X2 hown hK hP 0 rfl rfl 0 (by decide) (hts (.fieldLink RX2 20 "WitchTrialModel" "thrown" "I") (List.mem_of_getElem? (i := 2) rfl)) (fun _ h9 => h9) rfl dX2_isPossible_46 ?_
      refine lv_if_ne (tgt := 72) hx hb dX2_isPossible_49 (by decide) (fun c_3 => ?_) (fun c_3 => ?_)
      · refine lv_iconst (v := 0) hx hb dX2_isPossible_72 (by decide) ?_
        refine lv_istore (lv' := [(5, .int 0), (0, .ref hM), (1, .int q), (2, .int t), (3, .int r), (4, .int u)]) hx hb dX2_isPossible_73 hl (by decide) rfl (fun ls hl => ?_)
        refine lv_iload hx hb dX2_isPossible_75 (lv_at hl 0 rfl) ?_
        refine lv_if_eq (tgt := 104) hx hb dX2_isPossible_77 (by decide) (fun c_4 => ?_) (fun c_4 => ?_)
        · refine lv_iconst (v := 0) hx hb dX2_isPossible_104 (by decide) ?_
          have hP9 : va_P D vwCl [cM hM hO hW hY (kPo a q r u) a] H := by
            have e9_0 : (kPo a q r u) = 2 := by (first | rfl | (simp only [kPo, bI, c_1, c_2, eq_self, ↓reduceIte]; done) | (simp only [kPo, bI, c_1, c_2, eq_self, ↓reduceIte]; rfl) | simp [kPo, bI, c_1, c_2])
            rw [e9_0]
            exact hP
          exact mi_zret hx hb hr hlocks hS (by rfl) rfl hP9 dX2_isPossible_105
        · exact absurd c_4 (by decide)
      · exact absurd c_3 (by decide)
    · have c_2 : (xVw a q) = true := bI_1 c_2
      refine lv_aload_n hx hb dX2_isPossible_20 rfl (lv_at hl 0 rfl) ?_
      refine lv_iload_n hx hb dX2_isPossible_21 rfl (lv_at hl 3 rfl) ?_
      refine rd_V (b := hM) (As := [.int r]) (rest := [.ref hM]) ⟨hx, hb, hml, hown, hts⟩ (c_X2_isPlayer l D cI cZ cJ hM hO hW hY th a r) (cwV 1 hts gX2_isPossible_X2_isPlayer rfl rfl rfl (by decide +kernel) ⟨Nat.le_of_ble_eq_true rfl, Nat.le_of_ble_eq_true rfl⟩) (hP.sub (ws' := [cM hM hO hW hY th a]) [0] rfl) hK hN (va_recv hK hP (ci := 2) (q0 := 0) rfl rfl) rfl hl.1 rfl (Nat.le_of_ble_eq_true rfl) dX2_isPossible_22 ⟨Nat.le_of_ble_eq_true rfl, Nat.le_of_ble_eq_true rfl⟩ ?_
      refine lv_if_eq (tgt := 41) hx hb dX2_isPossible_25 (by decide) (fun c_5 => ?_) (fun c_5 => ?_)
      · have c_5 : (xPl a r) = false := bI_0 c_5
        refine lv_iconst (v := 2) hx hb dX2_isPossible_41 (by decide) ?_
        refine va_put (D := D) (cl := vwCl) (ci := 2) (v := .int 2) (ty := .int) (C := RX2) (T := TX2) (N := 16) hx hb hts in_X2_isPossible_X2 tyX2 tyX2_ok nmX2 hown hK hP hD hS 0 rfl rfl 0 (by decide) (hts (.fieldLink RX2 20 "WitchTrialModel" "thrown" "I") (List.mem_of_getElem? (i := 2) rfl)) (fun _ h9 => h9) rfl (by decide +kernel) rfl rfl (Nat.le_of_ble_eq_true rfl) dX2_isPossible_42 (fun H locs hP hD hS => ?_)
        have hP : va_P D vwCl [cM hM hO hW hY 2 a] H := hP
        have hD : va_D A [cM hM hO hW hY 2 a] := hD
        refine lv_aload_n hx hb dX2_isPossible_45 rfl (lv_at hl 0 rfl) ?_
        refine va_get (D := D) (cl := vwCl) (ci := 2) (v := .int 2) (C := RX2) (T := TX2) (N := 16) hx hb hts in_X2_isPossible_X2 hown hK hP 0 rfl rfl 0 (by decide) (hts (.fieldLink RX2 20 "WitchTrialModel" "thrown" "I") (List.mem_of_getElem? (i := 2) rfl)) (fun _ h9 => h9) rfl dX2_isPossible_46 ?_
        refine lv_if_ne (tgt := 72) hx hb dX2_isPossible_49 (by decide) (fun c_6 => ?_) (fun c_6 => ?_)
        · refine lv_iconst (v := 0) hx hb dX2_isPossible_72 (by decide) ?_
          refine lv_istore (lv' := [(5, .int 0), (0, .ref hM), (1, .int q), (2, .int t), (3, .int r), (4, .int u)]) hx hb dX2_isPossible_73 hl (by decide) rfl (fun ls hl => ?_)
          refine lv_iload hx hb dX2_isPossible_75 (lv_at hl 0 rfl) ?_
          refine lv_if_eq (tgt := 104) hx hb dX2_isPossible_77 (by decide) (fun c_7 => ?_) (fun c_7 => ?_)
          · refine lv_iconst (v := 0) hx hb dX2_isPossible_104 (by decide) ?_
            have hP9 : va_P D vwCl [cM hM hO hW hY (kPo a q r u) a] H := by
              have e9_0 : (kPo a q r u) = 2 := by (first | rfl | (simp only [kPo, bI, c_1, c_2, c_5, eq_self, ↓reduceIte]; done) | (simp only [kPo, bI, c_1, c_2, c_5, eq_self, ↓reduceIte]; rfl) | simp [kPo, bI, c_1, c_2, c_5])
              rw [e9_0]
              exact hP
            exact mi_zret hx hb hr hlocks hS (by rfl) rfl hP9 dX2_isPossible_105
          · exact absurd c_7 (by decide)
        · exact absurd c_6 (by decide)
      · have c_5 : (xPl a r) = true := bI_1 c_5
        refine lv_aload_n hx hb dX2_isPossible_28 rfl (lv_at hl 0 rfl) ?_
        refine lv_iload hx hb dX2_isPossible_29 (lv_at hl 4 rfl) ?_
        refine rd_V (b := hM) (As := [.int u]) (rest := [.ref hM]) ⟨hx, hb, hml, hown, hts⟩ (c_X2_isPlayer l D cI cZ cJ hM hO hW hY th a u) (cwV 1 hts gX2_isPossible_X2_isPlayer rfl rfl rfl (by decide +kernel) ⟨Nat.le_of_ble_eq_true rfl, Nat.le_of_ble_eq_true rfl⟩) (hP.sub (ws' := [cM hM hO hW hY th a]) [0] rfl) hK hN (va_recv hK hP (ci := 2) (q0 := 0) rfl rfl) rfl hl.1 rfl (Nat.le_of_ble_eq_true rfl) dX2_isPossible_31 ⟨Nat.le_of_ble_eq_true rfl, Nat.le_of_ble_eq_true rfl⟩ ?_
        refine lv_if_eq (tgt := 41) hx hb dX2_isPossible_34 (by decide) (fun c_8 => ?_) (fun c_8 => ?_)
        · have c_8 : (xPl a u) = false := bI_0 c_8
          refine lv_iconst (v := 2) hx hb dX2_isPossible_41 (by decide) ?_
          refine va_put (D := D) (cl := vwCl) (ci := 2) (v := .int 2) (ty := .int) (C := RX2) (T := TX2) (N := 16) hx hb hts in_X2_isPossible_X2 tyX2 tyX2_ok nmX2 hown hK hP hD hS 0 rfl rfl 0 (by decide) (hts (.fieldLink RX2 20 "WitchTrialModel" "thrown" "I") (List.mem_of_getElem? (i := 2) rfl)) (fun _ h9 => h9) rfl (by decide +kernel) rfl rfl (Nat.le_of_ble_eq_true rfl) dX2_isPossible_42 (fun H locs hP hD hS => ?_)
          have hP : va_P D vwCl [cM hM hO hW hY 2 a] H := hP
          have hD : va_D A [cM hM hO hW hY 2 a] := hD
          refine lv_aload_n hx hb dX2_isPossible_45 rfl (lv_at hl 0 rfl) ?_
          refine va_get (D := D) (cl := vwCl) (ci := 2) (v := .int 2) (C := RX2) (T := TX2) (N := 16) hx hb hts in_X2_isPossible_X2 hown hK hP 0 rfl rfl 0 (by decide) (hts (.fieldLink RX2 20 "WitchTrialModel" "thrown" "I") (List.mem_of_getElem? (i := 2) rfl)) (fun _ h9 => h9) rfl dX2_isPossible_46 ?_
          refine lv_if_ne (tgt := 72) hx hb dX2_isPossible_49 (by decide) (fun c_9 => ?_) (fun c_9 => ?_)
          · refine lv_iconst (v := 0) hx hb dX2_isPossible_72 (by decide) ?_
            refine lv_istore (lv' := [(5, .int 0), (0, .ref hM), (1, .int q), (2, .int t), (3, .int r), (4, .int u)]) hx hb dX2_isPossible_73 hl (by decide) rfl (fun ls hl => ?_)
            refine lv_iload hx hb dX2_isPossible_75 (lv_at hl 0 rfl) ?_
            refine lv_if_eq (tgt := 104) hx hb dX2_isPossible_77 (by decide) (fun c_10 => ?_) (fun c_10 => ?_)
            · refine lv_iconst (v := 0) hx hb dX2_isPossible_104 (by decide) ?_
              have hP9 : va_P D vwCl [cM hM hO hW hY (kPo a q r u) a] H := by
                have e9_0 : (kPo a q r u) = 2 := by (first | rfl | (simp only [kPo, bI, c_1, c_2, c_5, c_8, eq_self, ↓reduceIte]; done) | (simp only [kPo, bI, c_1, c_2, c_5, c_8, eq_self, ↓reduceIte]; rfl) | simp [kPo, bI, c_1, c_2, c_5, c_8])
                rw [e9_0]
                exact hP
              exact mi_zret hx hb hr hlocks hS (by rfl) rfl hP9 dX2_isPossible_105
            · exact absurd c_10 (by decide)
          · exact absurd c_9 (by decide)
        · have c_8 : (xPl a u) = true := bI_1 c_8
          refine lv_iconst (v := 0) hx hb dX2_isPossible_37 (by decide) ?_
          refine lv_goto (tgt := 42) hx hb dX2_isPossible_38 (by decide) ?_
          refine va_put (D := D) (cl := vwCl) (ci := 2) (v := .int 0) (ty := .int) (C := RX2) (T := TX2) (N := 16) hx hb hts in_X2_isPossible_X2 tyX2 tyX2_ok nmX2 hown hK hP hD hS 0 rfl rfl 0 (by decide) (hts (.fieldLink RX2 20 "WitchTrialModel" "thrown" "I") (List.mem_of_getElem? (i := 2) rfl)) (fun _ h9 => h9) rfl (by decide +kernel) rfl rfl (Nat.le_of_ble_eq_true rfl) dX2_isPossible_42 (fun H locs hP hD hS => ?_)
          have hP : va_P D vwCl [cM hM hO hW hY 0 a] H := hP
          have hD : va_D A [cM hM hO hW hY 0 a] := hD
          refine lv_aload_n hx hb dX2_isPossible_45 rfl (lv_at hl 0 rfl) ?_
          refine va_get (D := D) (cl := vwCl) (ci := 2) (v := .int 0) (C := RX2) (T := TX2) (N := 16) hx hb hts in_X2_isPossible_X2 hown hK hP 0 rfl rfl 0 (by decide) (hts (.fieldLink RX2 20 "WitchTrialModel" "thrown" "I") (List.mem_of_getElem? (i := 2) rfl)) (fun _ h9 => h9) rfl dX2_isPossible_46 ?_
          refine lv_if_ne (tgt := 72) hx hb dX2_isPossible_49 (by decide) (fun c_11 => ?_) (fun c_11 => ?_)
          · exact absurd c_11 (by decide)
          · exact absurd hk (by simp [kPo, bI, c_1, c_2, c_5, c_8])
  · refine lv_iconst (v := 1) hx hb dX2_isPossible_8 (by decide) ?_
    refine lv_goto (tgt := 42) hx hb dX2_isPossible_9 (by decide) ?_
    refine va_put (D := D) (cl := vwCl) (ci := 2) (v := .int 1) (ty := .int) (C := RX2) (T := TX2) (N := 16) hx hb hts in_X2_isPossible_X2 tyX2 tyX2_ok nmX2 hown hK hP hD hS 0 rfl rfl 0 (by decide) (hts (.fieldLink RX2 20 "WitchTrialModel" "thrown" "I") (List.mem_of_getElem? (i := 2) rfl)) (fun _ h9 => h9) rfl (by decide +kernel) rfl rfl (Nat.le_of_ble_eq_true rfl) dX2_isPossible_42 (fun H locs hP hD hS => ?_)
    have hP : va_P D vwCl [cM hM hO hW hY 1 a] H := hP
    have hD : va_D A [cM hM hO hW hY 1 a] := hD
    refine lv_aload_n hx hb dX2_isPossible_45 rfl (lv_at hl 0 rfl) ?_
    refine va_get (D := D) (cl := vwCl) (ci := 2) (v := .int 1) (C := RX2) (T := TX2) (N := 16) hx hb hts in_X2_isPossible_X2 hown hK hP 0 rfl rfl 0 (by decide) (hts (.fieldLink RX2 20 "WitchTrialModel" "thrown" "I") (List.mem_of_getElem? (i := 2) rfl)) (fun _ h9 => h9) rfl dX2_isPossible_46 ?_
    refine lv_if_ne (tgt := 72) hx hb dX2_isPossible_49 (by decide) (fun c_12 => ?_) (fun c_12 => ?_)
    · refine lv_iconst (v := 0) hx hb dX2_isPossible_72 (by decide) ?_
      refine lv_istore (lv' := [(5, .int 0), (0, .ref hM), (1, .int q), (2, .int t), (3, .int r), (4, .int u)]) hx hb dX2_isPossible_73 hl (by decide) rfl (fun ls hl => ?_)
      refine lv_iload hx hb dX2_isPossible_75 (lv_at hl 0 rfl) ?_
      refine lv_if_eq (tgt := 104) hx hb dX2_isPossible_77 (by decide) (fun c_13 => ?_) (fun c_13 => ?_)
      · refine lv_iconst (v := 0) hx hb dX2_isPossible_104 (by decide) ?_
        have hP9 : va_P D vwCl [cM hM hO hW hY (kPo a q r u) a] H := by
          have e9_0 : (kPo a q r u) = 1 := by (first | rfl | (simp only [kPo, bI, c_1, eq_self, ↓reduceIte]; done) | (simp only [kPo, bI, c_1, eq_self, ↓reduceIte]; rfl) | (simp only [kPo, bI, eq_true c_1, eq_self, ↓reduceIte]; done) | (simp only [kPo, bI, eq_true c_1, eq_self, ↓reduceIte]; rfl) | (simp [kPo, bI, eq_true c_1]; done) | simp [kPo, bI, c_1])
          rw [e9_0]
          exact hP
        exact mi_zret hx hb hr hlocks hS (by rfl) rfl hP9 dX2_isPossible_105
      · exact absurd c_13 (by decide)
    · exact absurd c_12 (by decide)

set_option maxHeartbeats 2000000 in
set_option maxRecDepth 100000 in
theorem g_X2_isPossible (l : Launch) (D : va_G) (cI cZ cJ : ClassId) (sz : Nat) (hM : Nat) (hO : Nat) (hW : Nat) (hY : Nat) (th : Int32) (a : Nat → Int32) (q : Int32) (t : Int32) (r : Int32) (u : Int32) (hk : kPo a q r u = 0) (ht : xIn t 0 (((1 : Int32) <<< (a 2 &&& 31)) - 1) = false) : Mi l D cI cZ cJ yX2_isPossible wsX2_isPossible 3 64 sz [.ref hM, .int q, .int t, .int r, .int u] [cM hM hO hW hY th a] [cM hM hO hW hY 0 a] (bI false) := by
  refine mi_of (by decide) rfl (Nat.le_of_ble_eq_true rfl) (fun p e s m below meth c ls A hx hb hr hml hts hown hlocks hin hP hK hN hD hA hS hl => ?_)
  have hl : lv_has ls 6 [(0, .ref hM), (1, .int q), (2, .int t), (3, .int r), (4, .int u)] := hl
  refine lv_aload_n hx hb dX2_isPossible_0 rfl (lv_at hl 0 rfl) ?_
  refine lv_aload_n hx hb dX2_isPossible_1 rfl (lv_at hl 0 rfl) ?_
  refine va_get (D := D) (cl := vwCl) (ci := 2) (v := .int (a 0)) (C := RX2) (T := TX2) (N := 16) hx hb hts in_X2_isPossible_X2 hown hK hP 0 rfl rfl 1 (by decide) (hts (.fieldLink RX2 70 "WitchTrialModel" "phase" "I") (List.mem_of_getElem? (i := 1) rfl)) (fun _ h9 => h9) rfl dX2_isPossible_2 ?_
  refine lv_if_ne (tgt := 12) hx hb dX2_isPossible_5 (by decide) (fun c_1 => ?_) (fun c_1 => ?_)
  · refine lv_aload_n hx hb dX2_isPossible_12 rfl (lv_at hl 0 rfl) ?_
    refine lv_iload_n hx hb dX2_isPossible_13 rfl (lv_at hl 1 rfl) ?_
    refine rd_V (b := hM) (As := [.int q]) (rest := [.ref hM]) ⟨hx, hb, hml, hown, hts⟩ (c_X2_isViewer l D cI cZ cJ hM hO hW hY th a q) (cwV 1 hts gX2_isPossible_X2_isViewer rfl rfl rfl (by decide +kernel) ⟨Nat.le_of_ble_eq_true rfl, Nat.le_of_ble_eq_true rfl⟩) (hP.sub (ws' := [cM hM hO hW hY th a]) [0] rfl) hK hN (va_recv hK hP (ci := 2) (q0 := 0) rfl rfl) rfl hl.1 rfl (Nat.le_of_ble_eq_true rfl) dX2_isPossible_14 ⟨Nat.le_of_ble_eq_true rfl, Nat.le_of_ble_eq_true rfl⟩ ?_
    refine lv_if_eq (tgt := 41) hx hb dX2_isPossible_17 (by decide) (fun c_2 => ?_) (fun c_2 => ?_)
    · have c_2 : (xVw a q) = false := bI_0 c_2
      refine lv_iconst (v := 2) hx hb dX2_isPossible_41 (by decide) ?_
      refine va_put (D := D) (cl := vwCl) (ci := 2) (v := .int 2) (ty := .int) (C := RX2) (T := TX2) (N := 16) hx hb hts in_X2_isPossible_X2 tyX2 tyX2_ok nmX2 hown hK hP hD hS 0 rfl rfl 0 (by decide) (hts (.fieldLink RX2 20 "WitchTrialModel" "thrown" "I") (List.mem_of_getElem? (i := 2) rfl)) (fun _ h9 => h9) rfl (by decide +kernel) rfl rfl (Nat.le_of_ble_eq_true rfl) dX2_isPossible_42 (fun H locs hP hD hS => ?_)
      have hP : va_P D vwCl [cM hM hO hW hY 2 a] H := hP
      have hD : va_D A [cM hM hO hW hY 2 a] := hD
      refine lv_aload_n hx hb dX2_isPossible_45 rfl (lv_at hl 0 rfl) ?_
      refine va_get (D := D) (cl := vwCl) (ci := 2) (v := .int 2) (C := RX2) (T := TX2) (N := 16) hx hb hts in_X2_isPossible_X2 hown hK hP 0 rfl rfl 0 (by decide) (hts (.fieldLink RX2 20 "WitchTrialModel" "thrown" "I") (List.mem_of_getElem? (i := 2) rfl)) (fun _ h9 => h9) rfl dX2_isPossible_46 ?_
      refine lv_if_ne (tgt := 72) hx hb dX2_isPossible_49 (by decide) (fun c_3 => ?_) (fun c_3 => ?_)
      · exact absurd hk (by simp [kPo, bI, c_1, c_2])
      · exact absurd c_3 (by decide)
    · have c_2 : (xVw a q) = true := bI_1 c_2
      refine lv_aload_n hx hb dX2_isPossible_20 rfl (lv_at hl 0 rfl) ?_
      refine lv_iload_n hx hb dX2_isPossible_21 rfl (lv_at hl 3 rfl) ?_
      refine rd_V (b := hM) (As := [.int r]) (rest := [.ref hM]) ⟨hx, hb, hml, hown, hts⟩ (c_X2_isPlayer l D cI cZ cJ hM hO hW hY th a r) (cwV 1 hts gX2_isPossible_X2_isPlayer rfl rfl rfl (by decide +kernel) ⟨Nat.le_of_ble_eq_true rfl, Nat.le_of_ble_eq_true rfl⟩) (hP.sub (ws' := [cM hM hO hW hY th a]) [0] rfl) hK hN (va_recv hK hP (ci := 2) (q0 := 0) rfl rfl) rfl hl.1 rfl (Nat.le_of_ble_eq_true rfl) dX2_isPossible_22 ⟨Nat.le_of_ble_eq_true rfl, Nat.le_of_ble_eq_true rfl⟩ ?_
      refine lv_if_eq (tgt := 41) hx hb dX2_isPossible_25 (by decide) (fun c_4 => ?_) (fun c_4 => ?_)
      · have c_4 : (xPl a r) = false := bI_0 c_4
        refine lv_iconst (v := 2) hx hb dX2_isPossible_41 (by decide) ?_
        refine va_put (D := D) (cl := vwCl) (ci := 2) (v := .int 2) (ty := .int) (C := RX2) (T := TX2) (N := 16) hx hb hts in_X2_isPossible_X2 tyX2 tyX2_ok nmX2 hown hK hP hD hS 0 rfl rfl 0 (by decide) (hts (.fieldLink RX2 20 "WitchTrialModel" "thrown" "I") (List.mem_of_getElem? (i := 2) rfl)) (fun _ h9 => h9) rfl (by decide +kernel) rfl rfl (Nat.le_of_ble_eq_true rfl) dX2_isPossible_42 (fun H locs hP hD hS => ?_)
        have hP : va_P D vwCl [cM hM hO hW hY 2 a] H := hP
        have hD : va_D A [cM hM hO hW hY 2 a] := hD
        refine lv_aload_n hx hb dX2_isPossible_45 rfl (lv_at hl 0 rfl) ?_
        refine va_get (D := D) (cl := vwCl) (ci := 2) (v := .int 2) (C := RX2) (T := TX2) (N := 16) hx hb hts in_X2_isPossible_X2 hown hK hP 0 rfl rfl 0 (by decide) (hts (.fieldLink RX2 20 "WitchTrialModel" "thrown" "I") (List.mem_of_getElem? (i := 2) rfl)) (fun _ h9 => h9) rfl dX2_isPossible_46 ?_
        refine lv_if_ne (tgt := 72) hx hb dX2_isPossible_49 (by decide) (fun c_5 => ?_) (fun c_5 => ?_)
        · exact absurd hk (by simp [kPo, bI, c_1, c_2, c_4])
        · exact absurd c_5 (by decide)
      · have c_4 : (xPl a r) = true := bI_1 c_4
        refine lv_aload_n hx hb dX2_isPossible_28 rfl (lv_at hl 0 rfl) ?_
        refine lv_iload hx hb dX2_isPossible_29 (lv_at hl 4 rfl) ?_
        refine rd_V (b := hM) (As := [.int u]) (rest := [.ref hM]) ⟨hx, hb, hml, hown, hts⟩ (c_X2_isPlayer l D cI cZ cJ hM hO hW hY th a u) (cwV 1 hts gX2_isPossible_X2_isPlayer rfl rfl rfl (by decide +kernel) ⟨Nat.le_of_ble_eq_true rfl, Nat.le_of_ble_eq_true rfl⟩) (hP.sub (ws' := [cM hM hO hW hY th a]) [0] rfl) hK hN (va_recv hK hP (ci := 2) (q0 := 0) rfl rfl) rfl hl.1 rfl (Nat.le_of_ble_eq_true rfl) dX2_isPossible_31 ⟨Nat.le_of_ble_eq_true rfl, Nat.le_of_ble_eq_true rfl⟩ ?_
        refine lv_if_eq (tgt := 41) hx hb dX2_isPossible_34 (by decide) (fun c_6 => ?_) (fun c_6 => ?_)
        · have c_6 : (xPl a u) = false := bI_0 c_6
          refine lv_iconst (v := 2) hx hb dX2_isPossible_41 (by decide) ?_
          refine va_put (D := D) (cl := vwCl) (ci := 2) (v := .int 2) (ty := .int) (C := RX2) (T := TX2) (N := 16) hx hb hts in_X2_isPossible_X2 tyX2 tyX2_ok nmX2 hown hK hP hD hS 0 rfl rfl 0 (by decide) (hts (.fieldLink RX2 20 "WitchTrialModel" "thrown" "I") (List.mem_of_getElem? (i := 2) rfl)) (fun _ h9 => h9) rfl (by decide +kernel) rfl rfl (Nat.le_of_ble_eq_true rfl) dX2_isPossible_42 (fun H locs hP hD hS => ?_)
          have hP : va_P D vwCl [cM hM hO hW hY 2 a] H := hP
          have hD : va_D A [cM hM hO hW hY 2 a] := hD
          refine lv_aload_n hx hb dX2_isPossible_45 rfl (lv_at hl 0 rfl) ?_
          refine va_get (D := D) (cl := vwCl) (ci := 2) (v := .int 2) (C := RX2) (T := TX2) (N := 16) hx hb hts in_X2_isPossible_X2 hown hK hP 0 rfl rfl 0 (by decide) (hts (.fieldLink RX2 20 "WitchTrialModel" "thrown" "I") (List.mem_of_getElem? (i := 2) rfl)) (fun _ h9 => h9) rfl dX2_isPossible_46 ?_
          refine lv_if_ne (tgt := 72) hx hb dX2_isPossible_49 (by decide) (fun c_7 => ?_) (fun c_7 => ?_)
          · exact absurd hk (by simp [kPo, bI, c_1, c_2, c_4, c_6])
          · exact absurd c_7 (by decide)
        · have c_6 : (xPl a u) = true := bI_1 c_6
          refine lv_iconst (v := 0) hx hb dX2_isPossible_37 (by decide) ?_
          refine lv_goto (tgt := 42) hx hb dX2_isPossible_38 (by decide) ?_
          refine va_put (D := D) (cl := vwCl) (ci := 2) (v := .int 0) (ty := .int) (C := RX2) (T := TX2) (N := 16) hx hb hts in_X2_isPossible_X2 tyX2 tyX2_ok nmX2 hown hK hP hD hS 0 rfl rfl 0 (by decide) (hts (.fieldLink RX2 20 "WitchTrialModel" "thrown" "I") (List.mem_of_getElem? (i := 2) rfl)) (fun _ h9 => h9) rfl (by decide +kernel) rfl rfl (Nat.le_of_ble_eq_true rfl) dX2_isPossible_42 (fun H locs hP hD hS => ?_)
          have hP : va_P D vwCl [cM hM hO hW hY 0 a] H := hP
          have hD : va_D A [cM hM hO hW hY 0 a] := hD
          refine lv_aload_n hx hb dX2_isPossible_45 rfl (lv_at hl 0 rfl) ?_
          refine va_get (D := D) (cl := vwCl) (ci := 2) (v := .int 0) (C := RX2) (T := TX2) (N := 16) hx hb hts in_X2_isPossible_X2 hown hK hP 0 rfl rfl 0 (by decide) (hts (.fieldLink RX2 20 "WitchTrialModel" "thrown" "I") (List.mem_of_getElem? (i := 2) rfl)) (fun _ h9 => h9) rfl dX2_isPossible_46 ?_
          refine lv_if_ne (tgt := 72) hx hb dX2_isPossible_49 (by decide) (fun c_8 => ?_) (fun c_8 => ?_)
          · exact absurd c_8 (by decide)
          · refine lv_iload_n hx hb dX2_isPossible_52 rfl (lv_at hl 2 rfl) ?_
            refine lv_iconst (v := 0) hx hb dX2_isPossible_53 (by decide) ?_
            refine lv_iconst (v := 1) hx hb dX2_isPossible_54 (by decide) ?_
            refine lv_aload_n hx hb dX2_isPossible_55 rfl (lv_at hl 0 rfl) ?_
            refine va_get (D := D) (cl := vwCl) (ci := 2) (v := .int (a 2)) (C := RX2) (T := TX2) (N := 16) hx hb hts in_X2_isPossible_X2 hown hK hP 0 rfl rfl 2 (by decide) (hts (.fieldLink RX2 24 "WitchTrialModel" "players" "I") (List.mem_of_getElem? (i := 3) rfl)) (fun _ h9 => h9) rfl dX2_isPossible_56 ?_
            refine lv_ishl hx hb dX2_isPossible_59 ?_
            refine lv_iconst (v := 1) hx hb dX2_isPossible_60 (by decide) ?_
            refine lv_isub hx hb dX2_isPossible_61 ?_
            refine rd_S (As := [.int t, .int 0, .int (((1 : Int32) <<< ((a 2) &&& 31)) - 1)]) (rest := []) ⟨hx, hb, hml, hown, hts⟩ (c_X2_in l D cI cZ cJ t 0 (((1 : Int32) <<< ((a 2) &&& 31)) - 1)) (va_cwS 3 hts gX2_isPossible_X2_in rfl rfl rfl (by decide +kernel) ⟨Nat.le_of_ble_eq_true rfl, Nat.le_of_ble_eq_true rfl⟩) (hP.sub (ws' := []) [] rfl) hK hN rfl hl.1 rfl (Nat.le_of_ble_eq_true rfl) dX2_isPossible_62 ⟨Nat.le_of_ble_eq_true rfl, Nat.le_of_ble_eq_true rfl⟩ ?_
            refine lv_if_eq (tgt := 72) hx hb dX2_isPossible_65 (by decide) (fun c_9 => ?_) (fun c_9 => ?_)
            · have c_9 : (xIn t 0 (((1 : Int32) <<< ((a 2) &&& 31)) - 1)) = false := bI_0 c_9
              refine lv_iconst (v := 0) hx hb dX2_isPossible_72 (by decide) ?_
              refine lv_istore (lv' := [(5, .int 0), (0, .ref hM), (1, .int q), (2, .int t), (3, .int r), (4, .int u)]) hx hb dX2_isPossible_73 hl (by decide) rfl (fun ls hl => ?_)
              refine lv_iload hx hb dX2_isPossible_75 (lv_at hl 0 rfl) ?_
              refine lv_if_eq (tgt := 104) hx hb dX2_isPossible_77 (by decide) (fun c_10 => ?_) (fun c_10 => ?_)
              · refine lv_iconst (v := 0) hx hb dX2_isPossible_104 (by decide) ?_
                have hP9 : va_P D vwCl [cM hM hO hW hY 0 a] H := by
                  exact hP
                exact mi_zret hx hb hr hlocks hS (by rfl) rfl hP9 dX2_isPossible_105
              · exact absurd c_10 (by decide)
            · have c_9 : (xIn t 0 (((1 : Int32) <<< ((a 2) &&& 31)) - 1)) = true := bI_1 c_9
              refine lv_iconst (v := 1) hx hb dX2_isPossible_68 (by decide) ?_
              refine lv_goto (tgt := 73) hx hb dX2_isPossible_69 (by decide) ?_
              refine lv_istore (lv' := [(5, .int 1), (0, .ref hM), (1, .int q), (2, .int t), (3, .int r), (4, .int u)]) hx hb dX2_isPossible_73 hl (by decide) rfl (fun ls hl => ?_)
              refine lv_iload hx hb dX2_isPossible_75 (lv_at hl 0 rfl) ?_
              refine lv_if_eq (tgt := 104) hx hb dX2_isPossible_77 (by decide) (fun c_11 => ?_) (fun c_11 => ?_)
              · exact absurd c_11 (by decide)
              · rw [c_9] at ht; cases ht
  · refine lv_iconst (v := 1) hx hb dX2_isPossible_8 (by decide) ?_
    refine lv_goto (tgt := 42) hx hb dX2_isPossible_9 (by decide) ?_
    refine va_put (D := D) (cl := vwCl) (ci := 2) (v := .int 1) (ty := .int) (C := RX2) (T := TX2) (N := 16) hx hb hts in_X2_isPossible_X2 tyX2 tyX2_ok nmX2 hown hK hP hD hS 0 rfl rfl 0 (by decide) (hts (.fieldLink RX2 20 "WitchTrialModel" "thrown" "I") (List.mem_of_getElem? (i := 2) rfl)) (fun _ h9 => h9) rfl (by decide +kernel) rfl rfl (Nat.le_of_ble_eq_true rfl) dX2_isPossible_42 (fun H locs hP hD hS => ?_)
    have hP : va_P D vwCl [cM hM hO hW hY 1 a] H := hP
    have hD : va_D A [cM hM hO hW hY 1 a] := hD
    refine lv_aload_n hx hb dX2_isPossible_45 rfl (lv_at hl 0 rfl) ?_
    refine va_get (D := D) (cl := vwCl) (ci := 2) (v := .int 1) (C := RX2) (T := TX2) (N := 16) hx hb hts in_X2_isPossible_X2 hown hK hP 0 rfl rfl 0 (by decide) (hts (.fieldLink RX2 20 "WitchTrialModel" "thrown" "I") (List.mem_of_getElem? (i := 2) rfl)) (fun _ h9 => h9) rfl dX2_isPossible_46 ?_
    refine lv_if_ne (tgt := 72) hx hb dX2_isPossible_49 (by decide) (fun c_12 => ?_) (fun c_12 => ?_)
    · exact absurd hk (by simp [kPo, bI, c_1])
    · exact absurd c_12 (by decide)

set_option maxHeartbeats 2000000 in
set_option maxRecDepth 100000 in
theorem c_X2_isPossible (l : Launch) (D : va_G) (cI cZ cJ : ClassId) (sz : Nat) (hM : Nat) (hO : Nat) (hW : Nat) (hY : Nat) (th : Int32) (a : Nat → Int32) (o : Nat → Bool) (q : Int32) (t : Nat) (r : Nat) (u : Nat) (h9 : 64 * t + 8 * r + u < 16384) (hk : kPo a q (nI r) (nI u) = 0) (ht : xIn (nI t) 0 (((1 : Int32) <<< (a 2 &&& 31)) - 1) = true) : Mi l D cI cZ cJ yX2_isPossible wsX2_isPossible 3 66 sz [.ref hM, .int q, .int (nI t), .int (nI r), .int (nI u)] [cM hM hO hW hY th a, cA cZ hO 16384 (fun w => bI (o w))] [cM hM hO hW hY 0 a, cA cZ hO 16384 (fun w => bI (o w))] (bI (xFor a o q (64 * t + 8 * r + u))) := by
  refine mi_of (by decide) rfl (Nat.le_of_ble_eq_true rfl) (fun p e s m below meth c ls A hx hb hr hml hts hown hlocks hin hP hK hN hD hA hS hl => ?_)
  have hl : lv_has ls 6 [(0, .ref hM), (1, .int q), (2, .int (nI t)), (3, .int (nI r)), (4, .int (nI u))] := hl
  refine lv_aload_n hx hb dX2_isPossible_0 rfl (lv_at hl 0 rfl) ?_
  refine lv_aload_n hx hb dX2_isPossible_1 rfl (lv_at hl 0 rfl) ?_
  refine va_get (D := D) (cl := vwCl) (ci := 2) (v := .int (a 0)) (C := RX2) (T := TX2) (N := 16) hx hb hts in_X2_isPossible_X2 hown hK hP 0 rfl rfl 1 (by decide) (hts (.fieldLink RX2 70 "WitchTrialModel" "phase" "I") (List.mem_of_getElem? (i := 1) rfl)) (fun _ h9 => h9) rfl dX2_isPossible_2 ?_
  refine lv_if_ne (tgt := 12) hx hb dX2_isPossible_5 (by decide) (fun c_1 => ?_) (fun c_1 => ?_)
  · refine lv_aload_n hx hb dX2_isPossible_12 rfl (lv_at hl 0 rfl) ?_
    refine lv_iload_n hx hb dX2_isPossible_13 rfl (lv_at hl 1 rfl) ?_
    refine rd_V (b := hM) (As := [.int q]) (rest := [.ref hM]) ⟨hx, hb, hml, hown, hts⟩ (c_X2_isViewer l D cI cZ cJ hM hO hW hY th a q) (cwV 1 hts gX2_isPossible_X2_isViewer rfl rfl rfl (by decide +kernel) ⟨Nat.le_of_ble_eq_true rfl, Nat.le_of_ble_eq_true rfl⟩) (hP.sub (ws' := [cM hM hO hW hY th a]) [0] rfl) hK hN (va_recv hK hP (ci := 2) (q0 := 0) rfl rfl) rfl hl.1 rfl (Nat.le_of_ble_eq_true rfl) dX2_isPossible_14 ⟨Nat.le_of_ble_eq_true rfl, Nat.le_of_ble_eq_true rfl⟩ ?_
    refine lv_if_eq (tgt := 41) hx hb dX2_isPossible_17 (by decide) (fun c_2 => ?_) (fun c_2 => ?_)
    · have c_2 : (xVw a q) = false := bI_0 c_2
      refine lv_iconst (v := 2) hx hb dX2_isPossible_41 (by decide) ?_
      refine va_put (D := D) (cl := vwCl) (ci := 2) (v := .int 2) (ty := .int) (C := RX2) (T := TX2) (N := 16) hx hb hts in_X2_isPossible_X2 tyX2 tyX2_ok nmX2 hown hK hP hD hS 0 rfl rfl 0 (by decide) (hts (.fieldLink RX2 20 "WitchTrialModel" "thrown" "I") (List.mem_of_getElem? (i := 2) rfl)) (fun _ h9 => h9) rfl (by decide +kernel) rfl rfl (Nat.le_of_ble_eq_true rfl) dX2_isPossible_42 (fun H locs hP hD hS => ?_)
      have hP : va_P D vwCl [cM hM hO hW hY 2 a, cA cZ hO 16384 (fun w => bI (o w))] H := hP
      have hD : va_D A [cM hM hO hW hY 2 a, cA cZ hO 16384 (fun w => bI (o w))] := hD
      refine lv_aload_n hx hb dX2_isPossible_45 rfl (lv_at hl 0 rfl) ?_
      refine va_get (D := D) (cl := vwCl) (ci := 2) (v := .int 2) (C := RX2) (T := TX2) (N := 16) hx hb hts in_X2_isPossible_X2 hown hK hP 0 rfl rfl 0 (by decide) (hts (.fieldLink RX2 20 "WitchTrialModel" "thrown" "I") (List.mem_of_getElem? (i := 2) rfl)) (fun _ h9 => h9) rfl dX2_isPossible_46 ?_
      refine lv_if_ne (tgt := 72) hx hb dX2_isPossible_49 (by decide) (fun c_3 => ?_) (fun c_3 => ?_)
      · exact absurd hk (by simp [kPo, bI, c_1, c_2])
      · exact absurd c_3 (by decide)
    · have c_2 : (xVw a q) = true := bI_1 c_2
      refine lv_aload_n hx hb dX2_isPossible_20 rfl (lv_at hl 0 rfl) ?_
      refine lv_iload_n hx hb dX2_isPossible_21 rfl (lv_at hl 3 rfl) ?_
      refine rd_V (b := hM) (As := [.int (nI r)]) (rest := [.ref hM]) ⟨hx, hb, hml, hown, hts⟩ (c_X2_isPlayer l D cI cZ cJ hM hO hW hY th a (nI r)) (cwV 1 hts gX2_isPossible_X2_isPlayer rfl rfl rfl (by decide +kernel) ⟨Nat.le_of_ble_eq_true rfl, Nat.le_of_ble_eq_true rfl⟩) (hP.sub (ws' := [cM hM hO hW hY th a]) [0] rfl) hK hN (va_recv hK hP (ci := 2) (q0 := 0) rfl rfl) rfl hl.1 rfl (Nat.le_of_ble_eq_true rfl) dX2_isPossible_22 ⟨Nat.le_of_ble_eq_true rfl, Nat.le_of_ble_eq_true rfl⟩ ?_
      refine lv_if_eq (tgt := 41) hx hb dX2_isPossible_25 (by decide) (fun c_4 => ?_) (fun c_4 => ?_)
      · have c_4 : (xPl a (nI r)) = false := bI_0 c_4
        refine lv_iconst (v := 2) hx hb dX2_isPossible_41 (by decide) ?_
        refine va_put (D := D) (cl := vwCl) (ci := 2) (v := .int 2) (ty := .int) (C := RX2) (T := TX2) (N := 16) hx hb hts in_X2_isPossible_X2 tyX2 tyX2_ok nmX2 hown hK hP hD hS 0 rfl rfl 0 (by decide) (hts (.fieldLink RX2 20 "WitchTrialModel" "thrown" "I") (List.mem_of_getElem? (i := 2) rfl)) (fun _ h9 => h9) rfl (by decide +kernel) rfl rfl (Nat.le_of_ble_eq_true rfl) dX2_isPossible_42 (fun H locs hP hD hS => ?_)
        have hP : va_P D vwCl [cM hM hO hW hY 2 a, cA cZ hO 16384 (fun w => bI (o w))] H := hP
        have hD : va_D A [cM hM hO hW hY 2 a, cA cZ hO 16384 (fun w => bI (o w))] := hD
        refine lv_aload_n hx hb dX2_isPossible_45 rfl (lv_at hl 0 rfl) ?_
        refine va_get (D := D) (cl := vwCl) (ci := 2) (v := .int 2) (C := RX2) (T := TX2) (N := 16) hx hb hts in_X2_isPossible_X2 hown hK hP 0 rfl rfl 0 (by decide) (hts (.fieldLink RX2 20 "WitchTrialModel" "thrown" "I") (List.mem_of_getElem? (i := 2) rfl)) (fun _ h9 => h9) rfl dX2_isPossible_46 ?_
        refine lv_if_ne (tgt := 72) hx hb dX2_isPossible_49 (by decide) (fun c_5 => ?_) (fun c_5 => ?_)
        · exact absurd hk (by simp [kPo, bI, c_1, c_2, c_4])
        · exact absurd c_5 (by decide)
      · have c_4 : (xPl a (nI r)) = true := bI_1 c_4
        refine lv_aload_n hx hb dX2_isPossible_28 rfl (lv_at hl 0 rfl) ?_
        refine lv_iload hx hb dX2_isPossible_29 (lv_at hl 4 rfl) ?_
        refine rd_V (b := hM) (As := [.int (nI u)]) (rest := [.ref hM]) ⟨hx, hb, hml, hown, hts⟩ (c_X2_isPlayer l D cI cZ cJ hM hO hW hY th a (nI u)) (cwV 1 hts gX2_isPossible_X2_isPlayer rfl rfl rfl (by decide +kernel) ⟨Nat.le_of_ble_eq_true rfl, Nat.le_of_ble_eq_true rfl⟩) (hP.sub (ws' := [cM hM hO hW hY th a]) [0] rfl) hK hN (va_recv hK hP (ci := 2) (q0 := 0) rfl rfl) rfl hl.1 rfl (Nat.le_of_ble_eq_true rfl) dX2_isPossible_31 ⟨Nat.le_of_ble_eq_true rfl, Nat.le_of_ble_eq_true rfl⟩ ?_
        refine lv_if_eq (tgt := 41) hx hb dX2_isPossible_34 (by decide) (fun c_6 => ?_) (fun c_6 => ?_)
        · have c_6 : (xPl a (nI u)) = false := bI_0 c_6
          refine lv_iconst (v := 2) hx hb dX2_isPossible_41 (by decide) ?_
          refine va_put (D := D) (cl := vwCl) (ci := 2) (v := .int 2) (ty := .int) (C := RX2) (T := TX2) (N := 16) hx hb hts in_X2_isPossible_X2 tyX2 tyX2_ok nmX2 hown hK hP hD hS 0 rfl rfl 0 (by decide) (hts (.fieldLink RX2 20 "WitchTrialModel" "thrown" "I") (List.mem_of_getElem? (i := 2) rfl)) (fun _ h9 => h9) rfl (by decide +kernel) rfl rfl (Nat.le_of_ble_eq_true rfl) dX2_isPossible_42 (fun H locs hP hD hS => ?_)
          have hP : va_P D vwCl [cM hM hO hW hY 2 a, cA cZ hO 16384 (fun w => bI (o w))] H := hP
          have hD : va_D A [cM hM hO hW hY 2 a, cA cZ hO 16384 (fun w => bI (o w))] := hD
          refine lv_aload_n hx hb dX2_isPossible_45 rfl (lv_at hl 0 rfl) ?_
          refine va_get (D := D) (cl := vwCl) (ci := 2) (v := .int 2) (C := RX2) (T := TX2) (N := 16) hx hb hts in_X2_isPossible_X2 hown hK hP 0 rfl rfl 0 (by decide) (hts (.fieldLink RX2 20 "WitchTrialModel" "thrown" "I") (List.mem_of_getElem? (i := 2) rfl)) (fun _ h9 => h9) rfl dX2_isPossible_46 ?_
          refine lv_if_ne (tgt := 72) hx hb dX2_isPossible_49 (by decide) (fun c_7 => ?_) (fun c_7 => ?_)
          · exact absurd hk (by simp [kPo, bI, c_1, c_2, c_4, c_6])
          · exact absurd c_7 (by decide)
        · have c_6 : (xPl a (nI u)) = true := bI_1 c_6
          refine lv_iconst (v := 0) hx hb dX2_isPossible_37 (by decide) ?_
          refine lv_goto (tgt := 42) hx hb dX2_isPossible_38 (by decide) ?_
          refine va_put (D := D) (cl := vwCl) (ci := 2) (v := .int 0) (ty := .int) (C := RX2) (T := TX2) (N := 16) hx hb hts in_X2_isPossible_X2 tyX2 tyX2_ok nmX2 hown hK hP hD hS 0 rfl rfl 0 (by decide) (hts (.fieldLink RX2 20 "WitchTrialModel" "thrown" "I") (List.mem_of_getElem? (i := 2) rfl)) (fun _ h9 => h9) rfl (by decide +kernel) rfl rfl (Nat.le_of_ble_eq_true rfl) dX2_isPossible_42 (fun H locs hP hD hS => ?_)
          have hP : va_P D vwCl [cM hM hO hW hY 0 a, cA cZ hO 16384 (fun w => bI (o w))] H := hP
          have hD : va_D A [cM hM hO hW hY 0 a, cA cZ hO 16384 (fun w => bI (o w))] := hD
          refine lv_aload_n hx hb dX2_isPossible_45 rfl (lv_at hl 0 rfl) ?_
          refine va_get (D := D) (cl := vwCl) (ci := 2) (v := .int 0) (C := RX2) (T := TX2) (N := 16) hx hb hts in_X2_isPossible_X2 hown hK hP 0 rfl rfl 0 (by decide) (hts (.fieldLink RX2 20 "WitchTrialModel" "thrown" "I") (List.mem_of_getElem? (i := 2) rfl)) (fun _ h9 => h9) rfl dX2_isPossible_46 ?_
          refine lv_if_ne (tgt := 72) hx hb dX2_isPossible_49 (by decide) (fun c_8 => ?_) (fun c_8 => ?_)
          · exact absurd c_8 (by decide)
          · refine lv_iload_n hx hb dX2_isPossible_52 rfl (lv_at hl 2 rfl) ?_
            refine lv_iconst (v := 0) hx hb dX2_isPossible_53 (by decide) ?_
            refine lv_iconst (v := 1) hx hb dX2_isPossible_54 (by decide) ?_
            refine lv_aload_n hx hb dX2_isPossible_55 rfl (lv_at hl 0 rfl) ?_
            refine va_get (D := D) (cl := vwCl) (ci := 2) (v := .int (a 2)) (C := RX2) (T := TX2) (N := 16) hx hb hts in_X2_isPossible_X2 hown hK hP 0 rfl rfl 2 (by decide) (hts (.fieldLink RX2 24 "WitchTrialModel" "players" "I") (List.mem_of_getElem? (i := 3) rfl)) (fun _ h9 => h9) rfl dX2_isPossible_56 ?_
            refine lv_ishl hx hb dX2_isPossible_59 ?_
            refine lv_iconst (v := 1) hx hb dX2_isPossible_60 (by decide) ?_
            refine lv_isub hx hb dX2_isPossible_61 ?_
            refine rd_S (As := [.int (nI t), .int 0, .int (((1 : Int32) <<< ((a 2) &&& 31)) - 1)]) (rest := []) ⟨hx, hb, hml, hown, hts⟩ (c_X2_in l D cI cZ cJ (nI t) 0 (((1 : Int32) <<< ((a 2) &&& 31)) - 1)) (va_cwS 3 hts gX2_isPossible_X2_in rfl rfl rfl (by decide +kernel) ⟨Nat.le_of_ble_eq_true rfl, Nat.le_of_ble_eq_true rfl⟩) (hP.sub (ws' := []) [] rfl) hK hN rfl hl.1 rfl (Nat.le_of_ble_eq_true rfl) dX2_isPossible_62 ⟨Nat.le_of_ble_eq_true rfl, Nat.le_of_ble_eq_true rfl⟩ ?_
            refine lv_if_eq (tgt := 72) hx hb dX2_isPossible_65 (by decide) (fun c_9 => ?_) (fun c_9 => ?_)
            · have c_9 : (xIn (nI t) 0 (((1 : Int32) <<< ((a 2) &&& 31)) - 1)) = false := bI_0 c_9
              rw [c_9] at ht; cases ht
            · have c_9 : (xIn (nI t) 0 (((1 : Int32) <<< ((a 2) &&& 31)) - 1)) = true := bI_1 c_9
              refine lv_iconst (v := 1) hx hb dX2_isPossible_68 (by decide) ?_
              refine lv_goto (tgt := 73) hx hb dX2_isPossible_69 (by decide) ?_
              refine lv_istore (lv' := [(5, .int 1), (0, .ref hM), (1, .int q), (2, .int (nI t)), (3, .int (nI r)), (4, .int (nI u))]) hx hb dX2_isPossible_73 hl (by decide) rfl (fun ls hl => ?_)
              refine lv_iload hx hb dX2_isPossible_75 (lv_at hl 0 rfl) ?_
              refine lv_if_eq (tgt := 104) hx hb dX2_isPossible_77 (by decide) (fun c_10 => ?_) (fun c_10 => ?_)
              · exact absurd c_10 (by decide)
              · refine lv_aload_n hx hb dX2_isPossible_80 rfl (lv_at hl 1 rfl) ?_
                refine lv_iload_n hx hb dX2_isPossible_81 rfl (lv_at hl 2 rfl) ?_
                refine lv_bipush (v := 64) hx hb dX2_isPossible_82 (by decide) ?_
                refine lv_iload_n hx hb dX2_isPossible_84 rfl (lv_at hl 3 rfl) ?_
                refine lv_imul hx hb dX2_isPossible_85 ?_
                refine lv_bipush (v := 8) hx hb dX2_isPossible_86 (by decide) ?_
                refine lv_iload_n hx hb dX2_isPossible_88 rfl (lv_at hl 4 rfl) ?_
                refine lv_imul hx hb dX2_isPossible_89 ?_
                refine lv_iadd hx hb dX2_isPossible_90 ?_
                refine lv_iload hx hb dX2_isPossible_91 (lv_at hl 5 rfl) ?_
                refine lv_iadd hx hb dX2_isPossible_93 ?_
                refine lv_topi (fun x9 ex9 => ?_)
                rw [poE t r u] at ex9
                subst ex9
                refine rd_V (b := hM) (As := [.int q, .int (nI (64 * t + 8 * r + u))]) (rest := []) ⟨hx, hb, hml, hown, hts⟩ (c_X2_isFor l D cI cZ cJ hM hO hW hY 0 a o q (64 * t + 8 * r + u) h9) (cwV 2 hts gX2_isPossible_X2_isFor rfl rfl rfl (by decide +kernel) ⟨Nat.le_of_ble_eq_true rfl, Nat.le_of_ble_eq_true rfl⟩) (hP.sub (ws' := [cM hM hO hW hY 0 a, cA cZ hO 16384 (fun w => bI (o w))]) [0, 1] rfl) hK hN (va_recv hK hP (ci := 2) (q0 := 0) rfl rfl) rfl hl.1 rfl (Nat.le_of_ble_eq_true rfl) dX2_isPossible_94 ⟨Nat.le_of_ble_eq_true rfl, Nat.le_of_ble_eq_true rfl⟩ ?_
                refine lv_if_eq (tgt := 104) hx hb dX2_isPossible_97 (by decide) (fun c_11 => ?_) (fun c_11 => ?_)
                · have c_11 : (xFor a o q (64 * t + 8 * r + u)) = false := bI_0 c_11
                  refine lv_iconst (v := 0) hx hb dX2_isPossible_104 (by decide) ?_
                  have hP9 : va_P D vwCl [cM hM hO hW hY 0 a, cA cZ hO 16384 (fun w => bI (o w))] H := by
                    exact hP
                  exact mi_zret hx hb hr hlocks hS (by (first | rfl | (simp only [kPo, bI, c_1, c_2, c_4, c_6, c_9, c_11, eq_self, ↓reduceIte]; done) | (simp only [kPo, bI, c_1, c_2, c_4, c_6, c_9, c_11, eq_self, ↓reduceIte]; rfl) | simp [kPo, bI, c_1, c_2, c_4, c_6, c_9, c_11])) rfl hP9 dX2_isPossible_105
                · have c_11 : (xFor a o q (64 * t + 8 * r + u)) = true := bI_1 c_11
                  refine lv_iconst (v := 1) hx hb dX2_isPossible_100 (by decide) ?_
                  refine lv_goto (tgt := 105) hx hb dX2_isPossible_101 (by decide) ?_
                  have hP9 : va_P D vwCl [cM hM hO hW hY 0 a, cA cZ hO 16384 (fun w => bI (o w))] H := by
                    exact hP
                  exact mi_zret hx hb hr hlocks hS (by (first | rfl | (simp only [kPo, bI, c_1, c_2, c_4, c_6, c_9, c_11, eq_self, ↓reduceIte]; done) | (simp only [kPo, bI, c_1, c_2, c_4, c_6, c_9, c_11, eq_self, ↓reduceIte]; rfl) | simp [kPo, bI, c_1, c_2, c_4, c_6, c_9, c_11])) rfl hP9 dX2_isPossible_105
  · refine lv_iconst (v := 1) hx hb dX2_isPossible_8 (by decide) ?_
    refine lv_goto (tgt := 42) hx hb dX2_isPossible_9 (by decide) ?_
    refine va_put (D := D) (cl := vwCl) (ci := 2) (v := .int 1) (ty := .int) (C := RX2) (T := TX2) (N := 16) hx hb hts in_X2_isPossible_X2 tyX2 tyX2_ok nmX2 hown hK hP hD hS 0 rfl rfl 0 (by decide) (hts (.fieldLink RX2 20 "WitchTrialModel" "thrown" "I") (List.mem_of_getElem? (i := 2) rfl)) (fun _ h9 => h9) rfl (by decide +kernel) rfl rfl (Nat.le_of_ble_eq_true rfl) dX2_isPossible_42 (fun H locs hP hD hS => ?_)
    have hP : va_P D vwCl [cM hM hO hW hY 1 a, cA cZ hO 16384 (fun w => bI (o w))] H := hP
    have hD : va_D A [cM hM hO hW hY 1 a, cA cZ hO 16384 (fun w => bI (o w))] := hD
    refine lv_aload_n hx hb dX2_isPossible_45 rfl (lv_at hl 0 rfl) ?_
    refine va_get (D := D) (cl := vwCl) (ci := 2) (v := .int 1) (C := RX2) (T := TX2) (N := 16) hx hb hts in_X2_isPossible_X2 hown hK hP 0 rfl rfl 0 (by decide) (hts (.fieldLink RX2 20 "WitchTrialModel" "thrown" "I") (List.mem_of_getElem? (i := 2) rfl)) (fun _ h9 => h9) rfl dX2_isPossible_46 ?_
    refine lv_if_ne (tgt := 72) hx hb dX2_isPossible_49 (by decide) (fun c_12 => ?_) (fun c_12 => ?_)
    · exact absurd hk (by simp [kPo, bI, c_1])
    · exact absurd c_12 (by decide)
