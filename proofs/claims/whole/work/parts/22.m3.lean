theorem in_X2_protect_X2 : ∀ w ∈ wsX20, w ∈ wsX2_protect := by decide +kernel
set_option maxHeartbeats 2000000 in
set_option maxRecDepth 100000 in
theorem c_X2_protect (l : Launch) (D : va_G) (cI cZ cJ : ClassId) (sz : Nat) (hM : Nat) (hO : Nat) (hW : Nat) (hY : Nat) (th : Int32) (a : Nat → Int32) (q : Int32) (hk : kPr a q = 0) : Mi l D cI cZ cJ yX2_protect wsX2_protect 2 43 sz [.ref hM, .int q] [cM hM hO hW hY th a] [cM hM hO hW hY 0 (upd a 8 q)] (a 8) := by
  refine mi_of (by decide) rfl (Nat.le_of_ble_eq_true rfl) (fun p e s m below meth c ls A hx hb hr hml hts hown hlocks hin hP hK hN hD hA hS hl => ?_)
  have hl : lv_has ls 3 [(0, .ref hM), (1, .int q)] := hl
  refine lv_aload_n hx hb dX2_protect_0 rfl (lv_at hl 0 rfl) ?_
  refine lv_aload_n hx hb dX2_protect_1 rfl (lv_at hl 0 rfl) ?_
  refine va_get (D := D) (cl := vwCl) (ci := 2) (v := .int (a 0)) (C := RX2) (T := TX2) (N := 16) hx hb hts in_X2_protect_X2 hown hK hP 0 rfl rfl 1 (by decide) (hts (.fieldLink RX2 70 "WitchTrialModel" "phase" "I") (List.mem_of_getElem? (i := 1) rfl)) (fun _ h9 => h9) rfl dX2_protect_2 ?_
  refine lv_iconst (v := 2) hx hb dX2_protect_5 (by decide) ?_
  refine lv_icmp_ne (tgt := 23) hx hb dX2_protect_6 (by decide) (fun c_1 => ?_) (fun c_1 => ?_)
  · refine lv_iconst (v := 1) hx hb dX2_protect_23 (by decide) ?_
    refine lv_goto (tgt := 63) hx hb dX2_protect_24 (by decide) ?_
    refine va_put (D := D) (cl := vwCl) (ci := 2) (v := .int 1) (ty := .int) (C := RX2) (T := TX2) (N := 16) hx hb hts in_X2_protect_X2 tyX2 tyX2_ok nmX2 hown hK hP hD hS 0 rfl rfl 0 (by decide) (hts (.fieldLink RX2 20 "WitchTrialModel" "thrown" "I") (List.mem_of_getElem? (i := 5) rfl)) (fun _ h9 => h9) rfl (by decide +kernel) rfl rfl (Nat.le_of_ble_eq_true rfl) dX2_protect_63 (fun H locs hP hD hS => ?_)
    have hP : va_P D vwCl [cM hM hO hW hY 1 a] H := hP
    have hD : va_D A [cM hM hO hW hY 1 a] := hD
    refine lv_aload_n hx hb dX2_protect_66 rfl (lv_at hl 0 rfl) ?_
    refine va_get (D := D) (cl := vwCl) (ci := 2) (v := .int 1) (C := RX2) (T := TX2) (N := 16) hx hb hts in_X2_protect_X2 hown hK hP 0 rfl rfl 0 (by decide) (hts (.fieldLink RX2 20 "WitchTrialModel" "thrown" "I") (List.mem_of_getElem? (i := 5) rfl)) (fun _ h9 => h9) rfl dX2_protect_67 ?_
    refine lv_if_le (tgt := 75) hx hb dX2_protect_70 (by decide) (fun c_2 => ?_) (fun c_2 => ?_)
    · exact absurd c_2 (by decide)
    · exact absurd hk (by simp [kPr, bI, c_1])
  · refine lv_aload_n hx hb dX2_protect_9 rfl (lv_at hl 0 rfl) ?_
    refine va_get (D := D) (cl := vwCl) (ci := 2) (v := .int (a 6)) (C := RX2) (T := TX2) (N := 16) hx hb hts in_X2_protect_X2 hown hK hP 0 rfl rfl 7 (by decide) (hts (.fieldLink RX2 67 "WitchTrialModel" "alive" "I") (List.mem_of_getElem? (i := 2) rfl)) (fun _ h9 => h9) rfl dX2_protect_10 ?_
    refine lv_aload_n hx hb dX2_protect_13 rfl (lv_at hl 0 rfl) ?_
    refine va_get (D := D) (cl := vwCl) (ci := 2) (v := .int (a 5)) (C := RX2) (T := TX2) (N := 16) hx hb hts in_X2_protect_X2 hown hK hP 0 rfl rfl 5 (by decide) (hts (.fieldLink RX2 49 "WitchTrialModel" "guard" "I") (List.mem_of_getElem? (i := 3) rfl)) (fun _ h9 => h9) rfl dX2_protect_14 ?_
    refine rd_S (As := [.int (a 6), .int (a 5)]) (rest := [.ref hM]) ⟨hx, hb, hml, hown, hts⟩ (c_X2_has l D cI cZ cJ (a 6) (a 5)) (va_cwS 2 hts gX2_protect_X2_has rfl rfl rfl (by decide +kernel) ⟨Nat.le_of_ble_eq_true rfl, Nat.le_of_ble_eq_true rfl⟩) (hP.sub (ws' := []) [] rfl) hK hN rfl hl.1 rfl (Nat.le_of_ble_eq_true rfl) dX2_protect_17 ⟨Nat.le_of_ble_eq_true rfl, Nat.le_of_ble_eq_true rfl⟩ ?_
    refine lv_if_ne (tgt := 27) hx hb dX2_protect_20 (by decide) (fun c_3 => ?_) (fun c_3 => ?_)
    · have c_3 : (xHas (a 6) (a 5)) = true := bI_1 c_3
      refine lv_aload_n hx hb dX2_protect_27 rfl (lv_at hl 0 rfl) ?_
      refine lv_iload_n hx hb dX2_protect_28 rfl (lv_at hl 1 rfl) ?_
      refine rd_V (b := hM) (As := [.int q]) (rest := [.ref hM]) ⟨hx, hb, hml, hown, hts⟩ (c_X2_isPlayer l D cI cZ cJ hM hO hW hY th a q) (cwV 1 hts gX2_protect_X2_isPlayer rfl rfl rfl (by decide +kernel) ⟨Nat.le_of_ble_eq_true rfl, Nat.le_of_ble_eq_true rfl⟩) (hP.sub (ws' := [cM hM hO hW hY th a]) [0] rfl) hK hN (va_recv hK hP (ci := 2) (q0 := 0) rfl rfl) rfl hl.1 rfl (Nat.le_of_ble_eq_true rfl) dX2_protect_29 ⟨Nat.le_of_ble_eq_true rfl, Nat.le_of_ble_eq_true rfl⟩ ?_
      refine lv_if_ne (tgt := 39) hx hb dX2_protect_32 (by decide) (fun c_4 => ?_) (fun c_4 => ?_)
      · have c_4 : (xPl a q) = true := bI_1 c_4
        refine lv_aload_n hx hb dX2_protect_39 rfl (lv_at hl 0 rfl) ?_
        refine va_get (D := D) (cl := vwCl) (ci := 2) (v := .int (a 6)) (C := RX2) (T := TX2) (N := 16) hx hb hts in_X2_protect_X2 hown hK hP 0 rfl rfl 7 (by decide) (hts (.fieldLink RX2 67 "WitchTrialModel" "alive" "I") (List.mem_of_getElem? (i := 2) rfl)) (fun _ h9 => h9) rfl dX2_protect_40 ?_
        refine lv_iload_n hx hb dX2_protect_43 rfl (lv_at hl 1 rfl) ?_
        refine rd_S (As := [.int (a 6), .int q]) (rest := [.ref hM]) ⟨hx, hb, hml, hown, hts⟩ (c_X2_has l D cI cZ cJ (a 6) q) (va_cwS 2 hts gX2_protect_X2_has rfl rfl rfl (by decide +kernel) ⟨Nat.le_of_ble_eq_true rfl, Nat.le_of_ble_eq_true rfl⟩) (hP.sub (ws' := []) [] rfl) hK hN rfl hl.1 rfl (Nat.le_of_ble_eq_true rfl) dX2_protect_44 ⟨Nat.le_of_ble_eq_true rfl, Nat.le_of_ble_eq_true rfl⟩ ?_
        refine lv_if_eq (tgt := 58) hx hb dX2_protect_47 (by decide) (fun c_5 => ?_) (fun c_5 => ?_)
        · have c_5 : (xHas (a 6) q) = false := bI_0 c_5
          refine lv_iconst (v := 3) hx hb dX2_protect_58 (by decide) ?_
          refine lv_goto (tgt := 63) hx hb dX2_protect_59 (by decide) ?_
          refine va_put (D := D) (cl := vwCl) (ci := 2) (v := .int 3) (ty := .int) (C := RX2) (T := TX2) (N := 16) hx hb hts in_X2_protect_X2 tyX2 tyX2_ok nmX2 hown hK hP hD hS 0 rfl rfl 0 (by decide) (hts (.fieldLink RX2 20 "WitchTrialModel" "thrown" "I") (List.mem_of_getElem? (i := 5) rfl)) (fun _ h9 => h9) rfl (by decide +kernel) rfl rfl (Nat.le_of_ble_eq_true rfl) dX2_protect_63 (fun H locs hP hD hS => ?_)
          have hP : va_P D vwCl [cM hM hO hW hY 3 a] H := hP
          have hD : va_D A [cM hM hO hW hY 3 a] := hD
          refine lv_aload_n hx hb dX2_protect_66 rfl (lv_at hl 0 rfl) ?_
          refine va_get (D := D) (cl := vwCl) (ci := 2) (v := .int 3) (C := RX2) (T := TX2) (N := 16) hx hb hts in_X2_protect_X2 hown hK hP 0 rfl rfl 0 (by decide) (hts (.fieldLink RX2 20 "WitchTrialModel" "thrown" "I") (List.mem_of_getElem? (i := 5) rfl)) (fun _ h9 => h9) rfl dX2_protect_67 ?_
          refine lv_if_le (tgt := 75) hx hb dX2_protect_70 (by decide) (fun c_6 => ?_) (fun c_6 => ?_)
          · exact absurd c_6 (by decide)
          · exact absurd hk (by simp [kPr, bI, c_1, c_3, c_4, c_5])
        · have c_5 : (xHas (a 6) q) = true := bI_1 c_5
          refine lv_iload_n hx hb dX2_protect_50 rfl (lv_at hl 1 rfl) ?_
          refine lv_aload_n hx hb dX2_protect_51 rfl (lv_at hl 0 rfl) ?_
          refine va_get (D := D) (cl := vwCl) (ci := 2) (v := .int (a 11)) (C := RX2) (T := TX2) (N := 16) hx hb hts in_X2_protect_X2 hown hK hP 0 rfl rfl 12 (by decide) (hts (.fieldLink RX2 76 "WitchTrialModel" "shieldedBefore" "I") (List.mem_of_getElem? (i := 4) rfl)) (fun _ h9 => h9) rfl dX2_protect_52 ?_
          refine lv_icmp_ne (tgt := 62) hx hb dX2_protect_55 (by decide) (fun c_7 => ?_) (fun c_7 => ?_)
          · refine lv_iconst (v := 0) hx hb dX2_protect_62 (by decide) ?_
            refine va_put (D := D) (cl := vwCl) (ci := 2) (v := .int 0) (ty := .int) (C := RX2) (T := TX2) (N := 16) hx hb hts in_X2_protect_X2 tyX2 tyX2_ok nmX2 hown hK hP hD hS 0 rfl rfl 0 (by decide) (hts (.fieldLink RX2 20 "WitchTrialModel" "thrown" "I") (List.mem_of_getElem? (i := 5) rfl)) (fun _ h9 => h9) rfl (by decide +kernel) rfl rfl (Nat.le_of_ble_eq_true rfl) dX2_protect_63 (fun H locs hP hD hS => ?_)
            have hP : va_P D vwCl [cM hM hO hW hY 0 a] H := hP
            have hD : va_D A [cM hM hO hW hY 0 a] := hD
            refine lv_aload_n hx hb dX2_protect_66 rfl (lv_at hl 0 rfl) ?_
            refine va_get (D := D) (cl := vwCl) (ci := 2) (v := .int 0) (C := RX2) (T := TX2) (N := 16) hx hb hts in_X2_protect_X2 hown hK hP 0 rfl rfl 0 (by decide) (hts (.fieldLink RX2 20 "WitchTrialModel" "thrown" "I") (List.mem_of_getElem? (i := 5) rfl)) (fun _ h9 => h9) rfl dX2_protect_67 ?_
            refine lv_if_le (tgt := 75) hx hb dX2_protect_70 (by decide) (fun c_8 => ?_) (fun c_8 => ?_)
            · refine lv_aload_n hx hb dX2_protect_75 rfl (lv_at hl 0 rfl) ?_
              refine va_get (D := D) (cl := vwCl) (ci := 2) (v := .int (a 8)) (C := RX2) (T := TX2) (N := 16) hx hb hts in_X2_protect_X2 hown hK hP 0 rfl rfl 11 (by decide) (hts (.fieldLink RX2 85 "WitchTrialModel" "shielded" "I") (List.mem_of_getElem? (i := 6) rfl)) (fun _ h9 => h9) rfl dX2_protect_76 ?_
              refine lv_istore_n (lv' := [(2, .int (a 8)), (0, .ref hM), (1, .int q)]) hx hb dX2_protect_79 rfl hl (by decide) rfl (fun ls hl => ?_)
              refine lv_aload_n hx hb dX2_protect_80 rfl (lv_at hl 1 rfl) ?_
              refine lv_iload_n hx hb dX2_protect_81 rfl (lv_at hl 2 rfl) ?_
              refine va_put (D := D) (cl := vwCl) (ci := 2) (v := .int q) (ty := .int) (C := RX2) (T := TX2) (N := 16) hx hb hts in_X2_protect_X2 tyX2 tyX2_ok nmX2 hown hK hP hD hS 0 rfl rfl 11 (by decide) (hts (.fieldLink RX2 85 "WitchTrialModel" "shielded" "I") (List.mem_of_getElem? (i := 6) rfl)) (fun _ h9 => h9) rfl (by decide +kernel) rfl rfl (Nat.le_of_ble_eq_true rfl) dX2_protect_82 (fun H locs hP hD hS => ?_)
              have hP : va_P D vwCl [cM hM hO hW hY 0 (upd a 8 q)] H := hP
              have hD : va_D A [cM hM hO hW hY 0 (upd a 8 q)] := hD
              refine lv_iload_n hx hb dX2_protect_85 rfl (lv_at hl 0 rfl) ?_
              have hP9 : va_P D vwCl [cM hM hO hW hY 0 (upd a 8 q)] H := by
                exact hP
              exact mi_iret hx hb hr hlocks hS (by rfl) hP9 dX2_protect_86
            · exact absurd c_8 (by decide)
          · refine lv_iconst (v := 3) hx hb dX2_protect_58 (by decide) ?_
            refine lv_goto (tgt := 63) hx hb dX2_protect_59 (by decide) ?_
            refine va_put (D := D) (cl := vwCl) (ci := 2) (v := .int 3) (ty := .int) (C := RX2) (T := TX2) (N := 16) hx hb hts in_X2_protect_X2 tyX2 tyX2_ok nmX2 hown hK hP hD hS 0 rfl rfl 0 (by decide) (hts (.fieldLink RX2 20 "WitchTrialModel" "thrown" "I") (List.mem_of_getElem? (i := 5) rfl)) (fun _ h9 => h9) rfl (by decide +kernel) rfl rfl (Nat.le_of_ble_eq_true rfl) dX2_protect_63 (fun H locs hP hD hS => ?_)
            have hP : va_P D vwCl [cM hM hO hW hY 3 a] H := hP
            have hD : va_D A [cM hM hO hW hY 3 a] := hD
            refine lv_aload_n hx hb dX2_protect_66 rfl (lv_at hl 0 rfl) ?_
            refine va_get (D := D) (cl := vwCl) (ci := 2) (v := .int 3) (C := RX2) (T := TX2) (N := 16) hx hb hts in_X2_protect_X2 hown hK hP 0 rfl rfl 0 (by decide) (hts (.fieldLink RX2 20 "WitchTrialModel" "thrown" "I") (List.mem_of_getElem? (i := 5) rfl)) (fun _ h9 => h9) rfl dX2_protect_67 ?_
            refine lv_if_le (tgt := 75) hx hb dX2_protect_70 (by decide) (fun c_9 => ?_) (fun c_9 => ?_)
            · exact absurd c_9 (by decide)
            · exact absurd hk (by simp [kPr, bI, c_1, c_3, c_4, c_5, eq_true c_7])
      · have c_4 : (xPl a q) = false := bI_0 c_4
        refine lv_iconst (v := 2) hx hb dX2_protect_35 (by decide) ?_
        refine lv_goto (tgt := 63) hx hb dX2_protect_36 (by decide) ?_
        refine va_put (D := D) (cl := vwCl) (ci := 2) (v := .int 2) (ty := .int) (C := RX2) (T := TX2) (N := 16) hx hb hts in_X2_protect_X2 tyX2 tyX2_ok nmX2 hown hK hP hD hS 0 rfl rfl 0 (by decide) (hts (.fieldLink RX2 20 "WitchTrialModel" "thrown" "I") (List.mem_of_getElem? (i := 5) rfl)) (fun _ h9 => h9) rfl (by decide +kernel) rfl rfl (Nat.le_of_ble_eq_true rfl) dX2_protect_63 (fun H locs hP hD hS => ?_)
        have hP : va_P D vwCl [cM hM hO hW hY 2 a] H := hP
        have hD : va_D A [cM hM hO hW hY 2 a] := hD
        refine lv_aload_n hx hb dX2_protect_66 rfl (lv_at hl 0 rfl) ?_
        refine va_get (D := D) (cl := vwCl) (ci := 2) (v := .int 2) (C := RX2) (T := TX2) (N := 16) hx hb hts in_X2_protect_X2 hown hK hP 0 rfl rfl 0 (by decide) (hts (.fieldLink RX2 20 "WitchTrialModel" "thrown" "I") (List.mem_of_getElem? (i := 5) rfl)) (fun _ h9 => h9) rfl dX2_protect_67 ?_
        refine lv_if_le (tgt := 75) hx hb dX2_protect_70 (by decide) (fun c_10 => ?_) (fun c_10 => ?_)
        · exact absurd c_10 (by decide)
        · exact absurd hk (by simp [kPr, bI, c_1, c_3, c_4])
    · have c_3 : (xHas (a 6) (a 5)) = false := bI_0 c_3
      refine lv_iconst (v := 1) hx hb dX2_protect_23 (by decide) ?_
      refine lv_goto (tgt := 63) hx hb dX2_protect_24 (by decide) ?_
      refine va_put (D := D) (cl := vwCl) (ci := 2) (v := .int 1) (ty := .int) (C := RX2) (T := TX2) (N := 16) hx hb hts in_X2_protect_X2 tyX2 tyX2_ok nmX2 hown hK hP hD hS 0 rfl rfl 0 (by decide) (hts (.fieldLink RX2 20 "WitchTrialModel" "thrown" "I") (List.mem_of_getElem? (i := 5) rfl)) (fun _ h9 => h9) rfl (by decide +kernel) rfl rfl (Nat.le_of_ble_eq_true rfl) dX2_protect_63 (fun H locs hP hD hS => ?_)
      have hP : va_P D vwCl [cM hM hO hW hY 1 a] H := hP
      have hD : va_D A [cM hM hO hW hY 1 a] := hD
      refine lv_aload_n hx hb dX2_protect_66 rfl (lv_at hl 0 rfl) ?_
      refine va_get (D := D) (cl := vwCl) (ci := 2) (v := .int 1) (C := RX2) (T := TX2) (N := 16) hx hb hts in_X2_protect_X2 hown hK hP 0 rfl rfl 0 (by decide) (hts (.fieldLink RX2 20 "WitchTrialModel" "thrown" "I") (List.mem_of_getElem? (i := 5) rfl)) (fun _ h9 => h9) rfl dX2_protect_67 ?_
      refine lv_if_le (tgt := 75) hx hb dX2_protect_70 (by decide) (fun c_11 => ?_) (fun c_11 => ?_)
      · exact absurd c_11 (by decide)
      · exact absurd hk (by simp [kPr, bI, c_1, c_3])

set_option maxHeartbeats 2000000 in
set_option maxRecDepth 100000 in
theorem f_X2_protect (l : Launch) (D : va_G) (cI cZ cJ : ClassId) (sz : Nat) (hM : Nat) (hO : Nat) (hW : Nat) (hY : Nat) (th : Int32) (a : Nat → Int32) (q : Int32) (hk : ¬ kPr a q = 0) : Mi l D cI cZ cJ yX2_protect wsX2_protect 2 43 sz [.ref hM, .int q] [cM hM hO hW hY th a] [cM hM hO hW hY (kPr a q) a] (0) := by
  refine mi_of (by decide) rfl (Nat.le_of_ble_eq_true rfl) (fun p e s m below meth c ls A hx hb hr hml hts hown hlocks hin hP hK hN hD hA hS hl => ?_)
  have hl : lv_has ls 3 [(0, .ref hM), (1, .int q)] := hl
  refine lv_aload_n hx hb dX2_protect_0 rfl (lv_at hl 0 rfl) ?_
  refine lv_aload_n hx hb dX2_protect_1 rfl (lv_at hl 0 rfl) ?_
  refine va_get (D := D) (cl := vwCl) (ci := 2) (v := .int (a 0)) (C := RX2) (T := TX2) (N := 16) hx hb hts in_X2_protect_X2 hown hK hP 0 rfl rfl 1 (by decide) (hts (.fieldLink RX2 70 "WitchTrialModel" "phase" "I") (List.mem_of_getElem? (i := 1) rfl)) (fun _ h9 => h9) rfl dX2_protect_2 ?_
  refine lv_iconst (v := 2) hx hb dX2_protect_5 (by decide) ?_
  refine lv_icmp_ne (tgt := 23) hx hb dX2_protect_6 (by decide) (fun c_1 => ?_) (fun c_1 => ?_)
  · refine lv_iconst (v := 1) hx hb dX2_protect_23 (by decide) ?_
    refine lv_goto (tgt := 63) hx hb dX2_protect_24 (by decide) ?_
    refine va_put (D := D) (cl := vwCl) (ci := 2) (v := .int 1) (ty := .int) (C := RX2) (T := TX2) (N := 16) hx hb hts in_X2_protect_X2 tyX2 tyX2_ok nmX2 hown hK hP hD hS 0 rfl rfl 0 (by decide) (hts (.fieldLink RX2 20 "WitchTrialModel" "thrown" "I") (List.mem_of_getElem? (i := 5) rfl)) (fun _ h9 => h9) rfl (by decide +kernel) rfl rfl (Nat.le_of_ble_eq_true rfl) dX2_protect_63 (fun H locs hP hD hS => ?_)
    have hP : va_P D vwCl [cM hM hO hW hY 1 a] H := hP
    have hD : va_D A [cM hM hO hW hY 1 a] := hD
    refine lv_aload_n hx hb dX2_protect_66 rfl (lv_at hl 0 rfl) ?_
    refine va_get (D := D) (cl := vwCl) (ci := 2) (v := .int 1) (C := RX2) (T := TX2) (N := 16) hx hb hts in_X2_protect_X2 hown hK hP 0 rfl rfl 0 (by decide) (hts (.fieldLink RX2 20 "WitchTrialModel" "thrown" "I") (List.mem_of_getElem? (i := 5) rfl)) (fun _ h9 => h9) rfl dX2_protect_67 ?_
    refine lv_if_le (tgt := 75) hx hb dX2_protect_70 (by decide) (fun c_2 => ?_) (fun c_2 => ?_)
    · exact absurd c_2 (by decide)
    · refine lv_iconst (v := 0) hx hb dX2_protect_73 (by decide) ?_
      have hP9 : va_P D vwCl [cM hM hO hW hY (kPr a q) a] H := by
        have e9_0 : (kPr a q) = 1 := by (first | rfl | (simp only [kPr, bI, c_1, eq_self, ↓reduceIte]; done) | (simp only [kPr, bI, c_1, eq_self, ↓reduceIte]; rfl) | simp [kPr, bI, c_1])
        rw [e9_0]
        exact hP
      exact mi_iret hx hb hr hlocks hS (by rfl) hP9 dX2_protect_74
  · refine lv_aload_n hx hb dX2_protect_9 rfl (lv_at hl 0 rfl) ?_
    refine va_get (D := D) (cl := vwCl) (ci := 2) (v := .int (a 6)) (C := RX2) (T := TX2) (N := 16) hx hb hts in_X2_protect_X2 hown hK hP 0 rfl rfl 7 (by decide) (hts (.fieldLink RX2 67 "WitchTrialModel" "alive" "I") (List.mem_of_getElem? (i := 2) rfl)) (fun _ h9 => h9) rfl dX2_protect_10 ?_
    refine lv_aload_n hx hb dX2_protect_13 rfl (lv_at hl 0 rfl) ?_
    refine va_get (D := D) (cl := vwCl) (ci := 2) (v := .int (a 5)) (C := RX2) (T := TX2) (N := 16) hx hb hts in_X2_protect_X2 hown hK hP 0 rfl rfl 5 (by decide) (hts (.fieldLink RX2 49 "WitchTrialModel" "guard" "I") (List.mem_of_getElem? (i := 3) rfl)) (fun _ h9 => h9) rfl dX2_protect_14 ?_
    refine rd_S (As := [.int (a 6), .int (a 5)]) (rest := [.ref hM]) ⟨hx, hb, hml, hown, hts⟩ (c_X2_has l D cI cZ cJ (a 6) (a 5)) (va_cwS 2 hts gX2_protect_X2_has rfl rfl rfl (by decide +kernel) ⟨Nat.le_of_ble_eq_true rfl, Nat.le_of_ble_eq_true rfl⟩) (hP.sub (ws' := []) [] rfl) hK hN rfl hl.1 rfl (Nat.le_of_ble_eq_true rfl) dX2_protect_17 ⟨Nat.le_of_ble_eq_true rfl, Nat.le_of_ble_eq_true rfl⟩ ?_
    refine lv_if_ne (tgt := 27) hx hb dX2_protect_20 (by decide) (fun c_3 => ?_) (fun c_3 => ?_)
    · have c_3 : (xHas (a 6) (a 5)) = true := bI_1 c_3
      refine lv_aload_n hx hb dX2_protect_27 rfl (lv_at hl 0 rfl) ?_
      refine lv_iload_n hx hb dX2_protect_28 rfl (lv_at hl 1 rfl) ?_
      refine rd_V (b := hM) (As := [.int q]) (rest := [.ref hM]) ⟨hx, hb, hml, hown, hts⟩ (c_X2_isPlayer l D cI cZ cJ hM hO hW hY th a q) (cwV 1 hts gX2_protect_X2_isPlayer rfl rfl rfl (by decide +kernel) ⟨Nat.le_of_ble_eq_true rfl, Nat.le_of_ble_eq_true rfl⟩) (hP.sub (ws' := [cM hM hO hW hY th a]) [0] rfl) hK hN (va_recv hK hP (ci := 2) (q0 := 0) rfl rfl) rfl hl.1 rfl (Nat.le_of_ble_eq_true rfl) dX2_protect_29 ⟨Nat.le_of_ble_eq_true rfl, Nat.le_of_ble_eq_true rfl⟩ ?_
      refine lv_if_ne (tgt := 39) hx hb dX2_protect_32 (by decide) (fun c_4 => ?_) (fun c_4 => ?_)
      · have c_4 : (xPl a q) = true := bI_1 c_4
        refine lv_aload_n hx hb dX2_protect_39 rfl (lv_at hl 0 rfl) ?_
        refine va_get (D := D) (cl := vwCl) (ci := 2) (v := .int (a 6)) (C := RX2) (T := TX2) (N := 16) hx hb hts in_X2_protect_X2 hown hK hP 0 rfl rfl 7 (by decide) (hts (.fieldLink RX2 67 "WitchTrialModel" "alive" "I") (List.mem_of_getElem? (i := 2) rfl)) (fun _ h9 => h9) rfl dX2_protect_40 ?_
        refine lv_iload_n hx hb dX2_protect_43 rfl (lv_at hl 1 rfl) ?_
        refine rd_S (As := [.int (a 6), .int q]) (rest := [.ref hM]) ⟨hx, hb, hml, hown, hts⟩ (c_X2_has l D cI cZ cJ (a 6) q) (va_cwS 2 hts gX2_protect_X2_has rfl rfl rfl (by decide +kernel) ⟨Nat.le_of_ble_eq_true rfl, Nat.le_of_ble_eq_true rfl⟩) (hP.sub (ws' := []) [] rfl) hK hN rfl hl.1 rfl (Nat.le_of_ble_eq_true rfl) dX2_protect_44 ⟨Nat.le_of_ble_eq_true rfl, Nat.le_of_ble_eq_true rfl⟩ ?_
        refine lv_if_eq (tgt := 58) hx hb dX2_protect_47 (by decide) (fun c_5 => ?_) (fun c_5 => ?_)
        · have c_5 : (xHas (a 6) q) = false := bI_0 c_5
          refine lv_iconst (v := 3) hx hb dX2_protect_58 (by decide) ?_
          refine lv_goto (tgt := 63) hx hb dX2_protect_59 (by decide) ?_
          refine va_put (D := D) (cl := vwCl) (ci := 2) (v := .int 3) (ty := .int) (C := RX2) (T := TX2) (N := 16) hx hb hts in_X2_protect_X2 tyX2 tyX2_ok nmX2 hown hK hP hD hS 0 rfl rfl 0 (by decide) (hts (.fieldLink RX2 20 "WitchTrialModel" "thrown" "I") (List.mem_of_getElem? (i := 5) rfl)) (fun _ h9 => h9) rfl (by decide +kernel) rfl rfl (Nat.le_of_ble_eq_true rfl) dX2_protect_63 (fun H locs hP hD hS => ?_)
          have hP : va_P D vwCl [cM hM hO hW hY 3 a] H := hP
          have hD : va_D A [cM hM hO hW hY 3 a] := hD
          refine lv_aload_n hx hb dX2_protect_66 rfl (lv_at hl 0 rfl) ?_
          refine va_get (D := D) (cl := vwCl) (ci := 2) (v := .int 3) (C := RX2) (T := TX2) (N := 16) hx hb hts in_X2_protect_X2 hown hK hP 0 rfl rfl 0 (by decide) (hts (.fieldLink RX2 20 "WitchTrialModel" "thrown" "I") (List.mem_of_getElem? (i := 5) rfl)) (fun _ h9 => h9) rfl dX2_protect_67 ?_
          refine lv_if_le (tgt := 75) hx hb dX2_protect_70 (by decide) (fun c_6 => ?_) (fun c_6 => ?_)
          · exact absurd c_6 (by decide)
          · refine lv_iconst (v := 0) hx hb dX2_protect_73 (by decide) ?_
            have hP9 : va_P D vwCl [cM hM hO hW hY (kPr a q) a] H := by
              have e9_0 : (kPr a q) = 3 := by (first | rfl | (simp only [kPr, bI, c_1, c_3, c_4, c_5, eq_self, ↓reduceIte]; done) | (simp only [kPr, bI, c_1, c_3, c_4, c_5, eq_self, ↓reduceIte]; rfl) | (simp only [kPr, bI, eq_true c_1, c_3, c_4, c_5, eq_self, ↓reduceIte]; done) | (simp only [kPr, bI, eq_true c_1, c_3, c_4, c_5, eq_self, ↓reduceIte]; rfl) | (simp [kPr, bI, eq_true c_1, c_3, c_4, c_5]; done) | simp [kPr, bI, c_1, c_3, c_4, c_5])
              rw [e9_0]
              exact hP
            exact mi_iret hx hb hr hlocks hS (by rfl) hP9 dX2_protect_74
        · have c_5 : (xHas (a 6) q) = true := bI_1 c_5
          refine lv_iload_n hx hb dX2_protect_50 rfl (lv_at hl 1 rfl) ?_
          refine lv_aload_n hx hb dX2_protect_51 rfl (lv_at hl 0 rfl) ?_
          refine va_get (D := D) (cl := vwCl) (ci := 2) (v := .int (a 11)) (C := RX2) (T := TX2) (N := 16) hx hb hts in_X2_protect_X2 hown hK hP 0 rfl rfl 12 (by decide) (hts (.fieldLink RX2 76 "WitchTrialModel" "shieldedBefore" "I") (List.mem_of_getElem? (i := 4) rfl)) (fun _ h9 => h9) rfl dX2_protect_52 ?_
          refine lv_icmp_ne (tgt := 62) hx hb dX2_protect_55 (by decide) (fun c_7 => ?_) (fun c_7 => ?_)
          · refine lv_iconst (v := 0) hx hb dX2_protect_62 (by decide) ?_
            refine va_put (D := D) (cl := vwCl) (ci := 2) (v := .int 0) (ty := .int) (C := RX2) (T := TX2) (N := 16) hx hb hts in_X2_protect_X2 tyX2 tyX2_ok nmX2 hown hK hP hD hS 0 rfl rfl 0 (by decide) (hts (.fieldLink RX2 20 "WitchTrialModel" "thrown" "I") (List.mem_of_getElem? (i := 5) rfl)) (fun _ h9 => h9) rfl (by decide +kernel) rfl rfl (Nat.le_of_ble_eq_true rfl) dX2_protect_63 (fun H locs hP hD hS => ?_)
            have hP : va_P D vwCl [cM hM hO hW hY 0 a] H := hP
            have hD : va_D A [cM hM hO hW hY 0 a] := hD
            refine lv_aload_n hx hb dX2_protect_66 rfl (lv_at hl 0 rfl) ?_
            refine va_get (D := D) (cl := vwCl) (ci := 2) (v := .int 0) (C := RX2) (T := TX2) (N := 16) hx hb hts in_X2_protect_X2 hown hK hP 0 rfl rfl 0 (by decide) (hts (.fieldLink RX2 20 "WitchTrialModel" "thrown" "I") (List.mem_of_getElem? (i := 5) rfl)) (fun _ h9 => h9) rfl dX2_protect_67 ?_
            refine lv_if_le (tgt := 75) hx hb dX2_protect_70 (by decide) (fun c_8 => ?_) (fun c_8 => ?_)
            · exact absurd hk (by simp [kPr, bI, c_1, c_3, c_4, c_5, c_7])
            · exact absurd c_8 (by decide)
          · refine lv_iconst (v := 3) hx hb dX2_protect_58 (by decide) ?_
            refine lv_goto (tgt := 63) hx hb dX2_protect_59 (by decide) ?_
            refine va_put (D := D) (cl := vwCl) (ci := 2) (v := .int 3) (ty := .int) (C := RX2) (T := TX2) (N := 16) hx hb hts in_X2_protect_X2 tyX2 tyX2_ok nmX2 hown hK hP hD hS 0 rfl rfl 0 (by decide) (hts (.fieldLink RX2 20 "WitchTrialModel" "thrown" "I") (List.mem_of_getElem? (i := 5) rfl)) (fun _ h9 => h9) rfl (by decide +kernel) rfl rfl (Nat.le_of_ble_eq_true rfl) dX2_protect_63 (fun H locs hP hD hS => ?_)
            have hP : va_P D vwCl [cM hM hO hW hY 3 a] H := hP
            have hD : va_D A [cM hM hO hW hY 3 a] := hD
            refine lv_aload_n hx hb dX2_protect_66 rfl (lv_at hl 0 rfl) ?_
            refine va_get (D := D) (cl := vwCl) (ci := 2) (v := .int 3) (C := RX2) (T := TX2) (N := 16) hx hb hts in_X2_protect_X2 hown hK hP 0 rfl rfl 0 (by decide) (hts (.fieldLink RX2 20 "WitchTrialModel" "thrown" "I") (List.mem_of_getElem? (i := 5) rfl)) (fun _ h9 => h9) rfl dX2_protect_67 ?_
            refine lv_if_le (tgt := 75) hx hb dX2_protect_70 (by decide) (fun c_9 => ?_) (fun c_9 => ?_)
            · exact absurd c_9 (by decide)
            · refine lv_iconst (v := 0) hx hb dX2_protect_73 (by decide) ?_
              have hP9 : va_P D vwCl [cM hM hO hW hY (kPr a q) a] H := by
                have e9_0 : (kPr a q) = 3 := by (first | rfl | (simp only [kPr, bI, c_1, c_3, c_4, c_5, eq_true c_7, eq_self, ↓reduceIte]; done) | (simp only [kPr, bI, c_1, c_3, c_4, c_5, eq_true c_7, eq_self, ↓reduceIte]; rfl) | (simp only [kPr, bI, eq_true c_1, c_3, c_4, c_5, eq_true c_7, eq_self, ↓reduceIte]; done) | (simp only [kPr, bI, eq_true c_1, c_3, c_4, c_5, eq_true c_7, eq_self, ↓reduceIte]; rfl) | (simp [kPr, bI, eq_true c_1, c_3, c_4, c_5, eq_true c_7]; done) | simp [kPr, bI, c_1, c_3, c_4, c_5, eq_true c_7])
                rw [e9_0]
                exact hP
              exact mi_iret hx hb hr hlocks hS (by rfl) hP9 dX2_protect_74
      · have c_4 : (xPl a q) = false := bI_0 c_4
        refine lv_iconst (v := 2) hx hb dX2_protect_35 (by decide) ?_
        refine lv_goto (tgt := 63) hx hb dX2_protect_36 (by decide) ?_
        refine va_put (D := D) (cl := vwCl) (ci := 2) (v := .int 2) (ty := .int) (C := RX2) (T := TX2) (N := 16) hx hb hts in_X2_protect_X2 tyX2 tyX2_ok nmX2 hown hK hP hD hS 0 rfl rfl 0 (by decide) (hts (.fieldLink RX2 20 "WitchTrialModel" "thrown" "I") (List.mem_of_getElem? (i := 5) rfl)) (fun _ h9 => h9) rfl (by decide +kernel) rfl rfl (Nat.le_of_ble_eq_true rfl) dX2_protect_63 (fun H locs hP hD hS => ?_)
        have hP : va_P D vwCl [cM hM hO hW hY 2 a] H := hP
        have hD : va_D A [cM hM hO hW hY 2 a] := hD
        refine lv_aload_n hx hb dX2_protect_66 rfl (lv_at hl 0 rfl) ?_
        refine va_get (D := D) (cl := vwCl) (ci := 2) (v := .int 2) (C := RX2) (T := TX2) (N := 16) hx hb hts in_X2_protect_X2 hown hK hP 0 rfl rfl 0 (by decide) (hts (.fieldLink RX2 20 "WitchTrialModel" "thrown" "I") (List.mem_of_getElem? (i := 5) rfl)) (fun _ h9 => h9) rfl dX2_protect_67 ?_
        refine lv_if_le (tgt := 75) hx hb dX2_protect_70 (by decide) (fun c_10 => ?_) (fun c_10 => ?_)
        · exact absurd c_10 (by decide)
        · refine lv_iconst (v := 0) hx hb dX2_protect_73 (by decide) ?_
          have hP9 : va_P D vwCl [cM hM hO hW hY (kPr a q) a] H := by
            have e9_0 : (kPr a q) = 2 := by (first | rfl | (simp only [kPr, bI, c_1, c_3, c_4, eq_self, ↓reduceIte]; done) | (simp only [kPr, bI, c_1, c_3, c_4, eq_self, ↓reduceIte]; rfl) | (simp only [kPr, bI, eq_true c_1, c_3, c_4, eq_self, ↓reduceIte]; done) | (simp only [kPr, bI, eq_true c_1, c_3, c_4, eq_self, ↓reduceIte]; rfl) | (simp [kPr, bI, eq_true c_1, c_3, c_4]; done) | simp [kPr, bI, c_1, c_3, c_4])
            rw [e9_0]
            exact hP
          exact mi_iret hx hb hr hlocks hS (by rfl) hP9 dX2_protect_74
    · have c_3 : (xHas (a 6) (a 5)) = false := bI_0 c_3
      refine lv_iconst (v := 1) hx hb dX2_protect_23 (by decide) ?_
      refine lv_goto (tgt := 63) hx hb dX2_protect_24 (by decide) ?_
      refine va_put (D := D) (cl := vwCl) (ci := 2) (v := .int 1) (ty := .int) (C := RX2) (T := TX2) (N := 16) hx hb hts in_X2_protect_X2 tyX2 tyX2_ok nmX2 hown hK hP hD hS 0 rfl rfl 0 (by decide) (hts (.fieldLink RX2 20 "WitchTrialModel" "thrown" "I") (List.mem_of_getElem? (i := 5) rfl)) (fun _ h9 => h9) rfl (by decide +kernel) rfl rfl (Nat.le_of_ble_eq_true rfl) dX2_protect_63 (fun H locs hP hD hS => ?_)
      have hP : va_P D vwCl [cM hM hO hW hY 1 a] H := hP
      have hD : va_D A [cM hM hO hW hY 1 a] := hD
      refine lv_aload_n hx hb dX2_protect_66 rfl (lv_at hl 0 rfl) ?_
      refine va_get (D := D) (cl := vwCl) (ci := 2) (v := .int 1) (C := RX2) (T := TX2) (N := 16) hx hb hts in_X2_protect_X2 hown hK hP 0 rfl rfl 0 (by decide) (hts (.fieldLink RX2 20 "WitchTrialModel" "thrown" "I") (List.mem_of_getElem? (i := 5) rfl)) (fun _ h9 => h9) rfl dX2_protect_67 ?_
      refine lv_if_le (tgt := 75) hx hb dX2_protect_70 (by decide) (fun c_11 => ?_) (fun c_11 => ?_)
      · exact absurd c_11 (by decide)
      · refine lv_iconst (v := 0) hx hb dX2_protect_73 (by decide) ?_
        have hP9 : va_P D vwCl [cM hM hO hW hY (kPr a q) a] H := by
          have e9_0 : (kPr a q) = 1 := by (first | rfl | (simp only [kPr, bI, c_1, c_3, eq_self, ↓reduceIte]; done) | (simp only [kPr, bI, c_1, c_3, eq_self, ↓reduceIte]; rfl) | (simp only [kPr, bI, eq_true c_1, c_3, eq_self, ↓reduceIte]; done) | (simp only [kPr, bI, eq_true c_1, c_3, eq_self, ↓reduceIte]; rfl) | (simp [kPr, bI, eq_true c_1, c_3]; done) | simp [kPr, bI, c_1, c_3])
          rw [e9_0]
          exact hP
        exact mi_iret hx hb hr hlocks hS (by rfl) hP9 dX2_protect_74

theorem in_X2_attack_X2 : ∀ w ∈ wsX20, w ∈ wsX2_attack := by decide +kernel
set_option maxHeartbeats 2000000 in
set_option maxRecDepth 100000 in
theorem c_X2_attack (l : Launch) (D : va_G) (cI cZ cJ : ClassId) (sz : Nat) (hM : Nat) (hO : Nat) (hW : Nat) (hY : Nat) (th : Int32) (a : Nat → Int32) (q : Int32) (hk : kAt a q = 0) : Mi l D cI cZ cJ yX2_attack wsX2_attack 2 43 sz [.ref hM, .int q] [cM hM hO hW hY th a] [cM hM hO hW hY 0 (upd a 9 q)] (a 9) := by
  refine mi_of (by decide) rfl (Nat.le_of_ble_eq_true rfl) (fun p e s m below meth c ls A hx hb hr hml hts hown hlocks hin hP hK hN hD hA hS hl => ?_)
  have hl : lv_has ls 3 [(0, .ref hM), (1, .int q)] := hl
  refine lv_aload_n hx hb dX2_attack_0 rfl (lv_at hl 0 rfl) ?_
  refine lv_aload_n hx hb dX2_attack_1 rfl (lv_at hl 0 rfl) ?_
  refine va_get (D := D) (cl := vwCl) (ci := 2) (v := .int (a 0)) (C := RX2) (T := TX2) (N := 16) hx hb hts in_X2_attack_X2 hown hK hP 0 rfl rfl 1 (by decide) (hts (.fieldLink RX2 70 "WitchTrialModel" "phase" "I") (List.mem_of_getElem? (i := 1) rfl)) (fun _ h9 => h9) rfl dX2_attack_2 ?_
  refine lv_iconst (v := 2) hx hb dX2_attack_5 (by decide) ?_
  refine lv_icmp_eq (tgt := 13) hx hb dX2_attack_6 (by decide) (fun c_1 => ?_) (fun c_1 => ?_)
  · refine lv_aload_n hx hb dX2_attack_13 rfl (lv_at hl 0 rfl) ?_
    refine lv_iload_n hx hb dX2_attack_14 rfl (lv_at hl 1 rfl) ?_
    refine rd_V (b := hM) (As := [.int q]) (rest := [.ref hM]) ⟨hx, hb, hml, hown, hts⟩ (c_X2_isPlayer l D cI cZ cJ hM hO hW hY th a q) (cwV 1 hts gX2_attack_X2_isPlayer rfl rfl rfl (by decide +kernel) ⟨Nat.le_of_ble_eq_true rfl, Nat.le_of_ble_eq_true rfl⟩) (hP.sub (ws' := [cM hM hO hW hY th a]) [0] rfl) hK hN (va_recv hK hP (ci := 2) (q0 := 0) rfl rfl) rfl hl.1 rfl (Nat.le_of_ble_eq_true rfl) dX2_attack_15 ⟨Nat.le_of_ble_eq_true rfl, Nat.le_of_ble_eq_true rfl⟩ ?_
    refine lv_if_ne (tgt := 25) hx hb dX2_attack_18 (by decide) (fun c_2 => ?_) (fun c_2 => ?_)
    · have c_2 : (xPl a q) = true := bI_1 c_2
      refine lv_aload_n hx hb dX2_attack_25 rfl (lv_at hl 0 rfl) ?_
      refine va_get (D := D) (cl := vwCl) (ci := 2) (v := .int (a 6)) (C := RX2) (T := TX2) (N := 16) hx hb hts in_X2_attack_X2 hown hK hP 0 rfl rfl 7 (by decide) (hts (.fieldLink RX2 67 "WitchTrialModel" "alive" "I") (List.mem_of_getElem? (i := 2) rfl)) (fun _ h9 => h9) rfl dX2_attack_26 ?_
      refine lv_iload_n hx hb dX2_attack_29 rfl (lv_at hl 1 rfl) ?_
      refine rd_S (As := [.int (a 6), .int q]) (rest := [.ref hM]) ⟨hx, hb, hml, hown, hts⟩ (c_X2_has l D cI cZ cJ (a 6) q) (va_cwS 2 hts gX2_attack_X2_has rfl rfl rfl (by decide +kernel) ⟨Nat.le_of_ble_eq_true rfl, Nat.le_of_ble_eq_true rfl⟩) (hP.sub (ws' := []) [] rfl) hK hN rfl hl.1 rfl (Nat.le_of_ble_eq_true rfl) dX2_attack_30 ⟨Nat.le_of_ble_eq_true rfl, Nat.le_of_ble_eq_true rfl⟩ ?_
      refine lv_if_eq (tgt := 47) hx hb dX2_attack_33 (by decide) (fun c_3 => ?_) (fun c_3 => ?_)
      · have c_3 : (xHas (a 6) q) = false := bI_0 c_3
        refine lv_iconst (v := 3) hx hb dX2_attack_47 (by decide) ?_
        refine lv_goto (tgt := 52) hx hb dX2_attack_48 (by decide) ?_
        refine va_put (D := D) (cl := vwCl) (ci := 2) (v := .int 3) (ty := .int) (C := RX2) (T := TX2) (N := 16) hx hb hts in_X2_attack_X2 tyX2 tyX2_ok nmX2 hown hK hP hD hS 0 rfl rfl 0 (by decide) (hts (.fieldLink RX2 20 "WitchTrialModel" "thrown" "I") (List.mem_of_getElem? (i := 4) rfl)) (fun _ h9 => h9) rfl (by decide +kernel) rfl rfl (Nat.le_of_ble_eq_true rfl) dX2_attack_52 (fun H locs hP hD hS => ?_)
        have hP : va_P D vwCl [cM hM hO hW hY 3 a] H := hP
        have hD : va_D A [cM hM hO hW hY 3 a] := hD
        refine lv_aload_n hx hb dX2_attack_55 rfl (lv_at hl 0 rfl) ?_
        refine va_get (D := D) (cl := vwCl) (ci := 2) (v := .int 3) (C := RX2) (T := TX2) (N := 16) hx hb hts in_X2_attack_X2 hown hK hP 0 rfl rfl 0 (by decide) (hts (.fieldLink RX2 20 "WitchTrialModel" "thrown" "I") (List.mem_of_getElem? (i := 4) rfl)) (fun _ h9 => h9) rfl dX2_attack_56 ?_
        refine lv_if_le (tgt := 64) hx hb dX2_attack_59 (by decide) (fun c_4 => ?_) (fun c_4 => ?_)
        · exact absurd c_4 (by decide)
        · exact absurd hk (by simp [kAt, bI, c_1, c_2, c_3])
      · have c_3 : (xHas (a 6) q) = true := bI_1 c_3
        refine lv_aload_n hx hb dX2_attack_36 rfl (lv_at hl 0 rfl) ?_
        refine va_get (D := D) (cl := vwCl) (ci := 2) (v := .int (a 3)) (C := RX2) (T := TX2) (N := 16) hx hb hts in_X2_attack_X2 hown hK hP 0 rfl rfl 3 (by decide) (hts (.fieldLink RX2 43 "WitchTrialModel" "witches" "I") (List.mem_of_getElem? (i := 3) rfl)) (fun _ h9 => h9) rfl dX2_attack_37 ?_
        refine lv_iload_n hx hb dX2_attack_40 rfl (lv_at hl 1 rfl) ?_
        refine rd_S (As := [.int (a 3), .int q]) (rest := [.ref hM]) ⟨hx, hb, hml, hown, hts⟩ (c_X2_has l D cI cZ cJ (a 3) q) (va_cwS 2 hts gX2_attack_X2_has rfl rfl rfl (by decide +kernel) ⟨Nat.le_of_ble_eq_true rfl, Nat.le_of_ble_eq_true rfl⟩) (hP.sub (ws' := []) [] rfl) hK hN rfl hl.1 rfl (Nat.le_of_ble_eq_true rfl) dX2_attack_41 ⟨Nat.le_of_ble_eq_true rfl, Nat.le_of_ble_eq_true rfl⟩ ?_
        refine lv_if_eq (tgt := 51) hx hb dX2_attack_44 (by decide) (fun c_5 => ?_) (fun c_5 => ?_)
        · have c_5 : (xHas (a 3) q) = false := bI_0 c_5
          refine lv_iconst (v := 0) hx hb dX2_attack_51 (by decide) ?_
          refine va_put (D := D) (cl := vwCl) (ci := 2) (v := .int 0) (ty := .int) (C := RX2) (T := TX2) (N := 16) hx hb hts in_X2_attack_X2 tyX2 tyX2_ok nmX2 hown hK hP hD hS 0 rfl rfl 0 (by decide) (hts (.fieldLink RX2 20 "WitchTrialModel" "thrown" "I") (List.mem_of_getElem? (i := 4) rfl)) (fun _ h9 => h9) rfl (by decide +kernel) rfl rfl (Nat.le_of_ble_eq_true rfl) dX2_attack_52 (fun H locs hP hD hS => ?_)
          have hP : va_P D vwCl [cM hM hO hW hY 0 a] H := hP
          have hD : va_D A [cM hM hO hW hY 0 a] := hD
          refine lv_aload_n hx hb dX2_attack_55 rfl (lv_at hl 0 rfl) ?_
          refine va_get (D := D) (cl := vwCl) (ci := 2) (v := .int 0) (C := RX2) (T := TX2) (N := 16) hx hb hts in_X2_attack_X2 hown hK hP 0 rfl rfl 0 (by decide) (hts (.fieldLink RX2 20 "WitchTrialModel" "thrown" "I") (List.mem_of_getElem? (i := 4) rfl)) (fun _ h9 => h9) rfl dX2_attack_56 ?_
          refine lv_if_le (tgt := 64) hx hb dX2_attack_59 (by decide) (fun c_6 => ?_) (fun c_6 => ?_)
          · refine lv_aload_n hx hb dX2_attack_64 rfl (lv_at hl 0 rfl) ?_
            refine va_get (D := D) (cl := vwCl) (ci := 2) (v := .int (a 9)) (C := RX2) (T := TX2) (N := 16) hx hb hts in_X2_attack_X2 hown hK hP 0 rfl rfl 13 (by decide) (hts (.fieldLink RX2 88 "WitchTrialModel" "attacked" "I") (List.mem_of_getElem? (i := 5) rfl)) (fun _ h9 => h9) rfl dX2_attack_65 ?_
            refine lv_istore_n (lv' := [(2, .int (a 9)), (0, .ref hM), (1, .int q)]) hx hb dX2_attack_68 rfl hl (by decide) rfl (fun ls hl => ?_)
            refine lv_aload_n hx hb dX2_attack_69 rfl (lv_at hl 1 rfl) ?_
            refine lv_iload_n hx hb dX2_attack_70 rfl (lv_at hl 2 rfl) ?_
            refine va_put (D := D) (cl := vwCl) (ci := 2) (v := .int q) (ty := .int) (C := RX2) (T := TX2) (N := 16) hx hb hts in_X2_attack_X2 tyX2 tyX2_ok nmX2 hown hK hP hD hS 0 rfl rfl 13 (by decide) (hts (.fieldLink RX2 88 "WitchTrialModel" "attacked" "I") (List.mem_of_getElem? (i := 5) rfl)) (fun _ h9 => h9) rfl (by decide +kernel) rfl rfl (Nat.le_of_ble_eq_true rfl) dX2_attack_71 (fun H locs hP hD hS => ?_)
            have hP : va_P D vwCl [cM hM hO hW hY 0 (upd a 9 q)] H := hP
            have hD : va_D A [cM hM hO hW hY 0 (upd a 9 q)] := hD
            refine lv_iload_n hx hb dX2_attack_74 rfl (lv_at hl 0 rfl) ?_
            have hP9 : va_P D vwCl [cM hM hO hW hY 0 (upd a 9 q)] H := by
              exact hP
            exact mi_iret hx hb hr hlocks hS (by rfl) hP9 dX2_attack_75
          · exact absurd c_6 (by decide)
        · have c_5 : (xHas (a 3) q) = true := bI_1 c_5
          refine lv_iconst (v := 3) hx hb dX2_attack_47 (by decide) ?_
          refine lv_goto (tgt := 52) hx hb dX2_attack_48 (by decide) ?_
          refine va_put (D := D) (cl := vwCl) (ci := 2) (v := .int 3) (ty := .int) (C := RX2) (T := TX2) (N := 16) hx hb hts in_X2_attack_X2 tyX2 tyX2_ok nmX2 hown hK hP hD hS 0 rfl rfl 0 (by decide) (hts (.fieldLink RX2 20 "WitchTrialModel" "thrown" "I") (List.mem_of_getElem? (i := 4) rfl)) (fun _ h9 => h9) rfl (by decide +kernel) rfl rfl (Nat.le_of_ble_eq_true rfl) dX2_attack_52 (fun H locs hP hD hS => ?_)
          have hP : va_P D vwCl [cM hM hO hW hY 3 a] H := hP
          have hD : va_D A [cM hM hO hW hY 3 a] := hD
          refine lv_aload_n hx hb dX2_attack_55 rfl (lv_at hl 0 rfl) ?_
          refine va_get (D := D) (cl := vwCl) (ci := 2) (v := .int 3) (C := RX2) (T := TX2) (N := 16) hx hb hts in_X2_attack_X2 hown hK hP 0 rfl rfl 0 (by decide) (hts (.fieldLink RX2 20 "WitchTrialModel" "thrown" "I") (List.mem_of_getElem? (i := 4) rfl)) (fun _ h9 => h9) rfl dX2_attack_56 ?_
          refine lv_if_le (tgt := 64) hx hb dX2_attack_59 (by decide) (fun c_7 => ?_) (fun c_7 => ?_)
          · exact absurd c_7 (by decide)
          · exact absurd hk (by simp [kAt, bI, c_1, c_2, c_3, c_5])
    · have c_2 : (xPl a q) = false := bI_0 c_2
      refine lv_iconst (v := 2) hx hb dX2_attack_21 (by decide) ?_
      refine lv_goto (tgt := 52) hx hb dX2_attack_22 (by decide) ?_
      refine va_put (D := D) (cl := vwCl) (ci := 2) (v := .int 2) (ty := .int) (C := RX2) (T := TX2) (N := 16) hx hb hts in_X2_attack_X2 tyX2 tyX2_ok nmX2 hown hK hP hD hS 0 rfl rfl 0 (by decide) (hts (.fieldLink RX2 20 "WitchTrialModel" "thrown" "I") (List.mem_of_getElem? (i := 4) rfl)) (fun _ h9 => h9) rfl (by decide +kernel) rfl rfl (Nat.le_of_ble_eq_true rfl) dX2_attack_52 (fun H locs hP hD hS => ?_)
      have hP : va_P D vwCl [cM hM hO hW hY 2 a] H := hP
      have hD : va_D A [cM hM hO hW hY 2 a] := hD
      refine lv_aload_n hx hb dX2_attack_55 rfl (lv_at hl 0 rfl) ?_
      refine va_get (D := D) (cl := vwCl) (ci := 2) (v := .int 2) (C := RX2) (T := TX2) (N := 16) hx hb hts in_X2_attack_X2 hown hK hP 0 rfl rfl 0 (by decide) (hts (.fieldLink RX2 20 "WitchTrialModel" "thrown" "I") (List.mem_of_getElem? (i := 4) rfl)) (fun _ h9 => h9) rfl dX2_attack_56 ?_
      refine lv_if_le (tgt := 64) hx hb dX2_attack_59 (by decide) (fun c_8 => ?_) (fun c_8 => ?_)
      · exact absurd c_8 (by decide)
      · exact absurd hk (by simp [kAt, bI, c_1, c_2])
  · refine lv_iconst (v := 1) hx hb dX2_attack_9 (by decide) ?_
    refine lv_goto (tgt := 52) hx hb dX2_attack_10 (by decide) ?_
    refine va_put (D := D) (cl := vwCl) (ci := 2) (v := .int 1) (ty := .int) (C := RX2) (T := TX2) (N := 16) hx hb hts in_X2_attack_X2 tyX2 tyX2_ok nmX2 hown hK hP hD hS 0 rfl rfl 0 (by decide) (hts (.fieldLink RX2 20 "WitchTrialModel" "thrown" "I") (List.mem_of_getElem? (i := 4) rfl)) (fun _ h9 => h9) rfl (by decide +kernel) rfl rfl (Nat.le_of_ble_eq_true rfl) dX2_attack_52 (fun H locs hP hD hS => ?_)
    have hP : va_P D vwCl [cM hM hO hW hY 1 a] H := hP
    have hD : va_D A [cM hM hO hW hY 1 a] := hD
    refine lv_aload_n hx hb dX2_attack_55 rfl (lv_at hl 0 rfl) ?_
    refine va_get (D := D) (cl := vwCl) (ci := 2) (v := .int 1) (C := RX2) (T := TX2) (N := 16) hx hb hts in_X2_attack_X2 hown hK hP 0 rfl rfl 0 (by decide) (hts (.fieldLink RX2 20 "WitchTrialModel" "thrown" "I") (List.mem_of_getElem? (i := 4) rfl)) (fun _ h9 => h9) rfl dX2_attack_56 ?_
    refine lv_if_le (tgt := 64) hx hb dX2_attack_59 (by decide) (fun c_9 => ?_) (fun c_9 => ?_)
    · exact absurd c_9 (by decide)
    · exact absurd hk (by simp [kAt, bI, c_1])

set_option maxHeartbeats 2000000 in
set_option maxRecDepth 100000 in
theorem f_X2_attack (l : Launch) (D : va_G) (cI cZ cJ : ClassId) (sz : Nat) (hM : Nat) (hO : Nat) (hW : Nat) (hY : Nat) (th : Int32) (a : Nat → Int32) (q : Int32) (hk : ¬ kAt a q = 0) : Mi l D cI cZ cJ yX2_attack wsX2_attack 2 43 sz [.ref hM, .int q] [cM hM hO hW hY th a] [cM hM hO hW hY (kAt a q) a] (0) := by
  refine mi_of (by decide) rfl (Nat.le_of_ble_eq_true rfl) (fun p e s m below meth c ls A hx hb hr hml hts hown hlocks hin hP hK hN hD hA hS hl => ?_)
  have hl : lv_has ls 3 [(0, .ref hM), (1, .int q)] := hl
  refine lv_aload_n hx hb dX2_attack_0 rfl (lv_at hl 0 rfl) ?_
  refine lv_aload_n hx hb dX2_attack_1 rfl (lv_at hl 0 rfl) ?_
  refine va_get (D := D) (cl := vwCl) (ci := 2) (v := .int (a 0)) (C := RX2) (T := TX2) (N := 16) hx hb hts in_X2_attack_X2 hown hK hP 0 rfl rfl 1 (by decide) (hts (.fieldLink RX2 70 "WitchTrialModel" "phase" "I") (List.mem_of_getElem? (i := 1) rfl)) (fun _ h9 => h9) rfl dX2_attack_2 ?_
  refine lv_iconst (v := 2) hx hb dX2_attack_5 (by decide) ?_
  refine lv_icmp_eq (tgt := 13) hx hb dX2_attack_6 (by decide) (fun c_1 => ?_) (fun c_1 => ?_)
  · refine lv_aload_n hx hb dX2_attack_13 rfl (lv_at hl 0 rfl) ?_
    refine lv_iload_n hx hb dX2_attack_14 rfl (lv_at hl 1 rfl) ?_
    refine rd_V (b := hM) (As := [.int q]) (rest := [.ref hM]) ⟨hx, hb, hml, hown, hts⟩ (c_X2_isPlayer l D cI cZ cJ hM hO hW hY th a q) (cwV 1 hts gX2_attack_X2_isPlayer rfl rfl rfl (by decide +kernel) ⟨Nat.le_of_ble_eq_true rfl, Nat.le_of_ble_eq_true rfl⟩) (hP.sub (ws' := [cM hM hO hW hY th a]) [0] rfl) hK hN (va_recv hK hP (ci := 2) (q0 := 0) rfl rfl) rfl hl.1 rfl (Nat.le_of_ble_eq_true rfl) dX2_attack_15 ⟨Nat.le_of_ble_eq_true rfl, Nat.le_of_ble_eq_true rfl⟩ ?_
    refine lv_if_ne (tgt := 25) hx hb dX2_attack_18 (by decide) (fun c_2 => ?_) (fun c_2 => ?_)
    · have c_2 : (xPl a q) = true := bI_1 c_2
      refine lv_aload_n hx hb dX2_attack_25 rfl (lv_at hl 0 rfl) ?_
      refine va_get (D := D) (cl := vwCl) (ci := 2) (v := .int (a 6)) (C := RX2) (T := TX2) (N := 16) hx hb hts in_X2_attack_X2 hown hK hP 0 rfl rfl 7 (by decide) (hts (.fieldLink RX2 67 "WitchTrialModel" "alive" "I") (List.mem_of_getElem? (i := 2) rfl)) (fun _ h9 => h9) rfl dX2_attack_26 ?_
      refine lv_iload_n hx hb dX2_attack_29 rfl (lv_at hl 1 rfl) ?_
      refine rd_S (As := [.int (a 6), .int q]) (rest := [.ref hM]) ⟨hx, hb, hml, hown, hts⟩ (c_X2_has l D cI cZ cJ (a 6) q) (va_cwS 2 hts gX2_attack_X2_has rfl rfl rfl (by decide +kernel) ⟨Nat.le_of_ble_eq_true rfl, Nat.le_of_ble_eq_true rfl⟩) (hP.sub (ws' := []) [] rfl) hK hN rfl hl.1 rfl (Nat.le_of_ble_eq_true rfl) dX2_attack_30 ⟨Nat.le_of_ble_eq_true rfl, Nat.le_of_ble_eq_true rfl⟩ ?_
      refine lv_if_eq (tgt := 47) hx hb dX2_attack_33 (by decide) (fun c_3 => ?_) (fun c_3 => ?_)
      · have c_3 : (xHas (a 6) q) = false := bI_0 c_3
        refine lv_iconst (v := 3) hx hb dX2_attack_47 (by decide) ?_
        refine lv_goto (tgt := 52) hx hb dX2_attack_48 (by decide) ?_
        refine va_put (D := D) (cl := vwCl) (ci := 2) (v := .int 3) (ty := .int) (C := RX2) (T := TX2) (N := 16) hx hb hts in_X2_attack_X2 tyX2 tyX2_ok nmX2 hown hK hP hD hS 0 rfl rfl 0 (by decide) (hts (.fieldLink RX2 20 "WitchTrialModel" "thrown" "I") (List.mem_of_getElem? (i := 4) rfl)) (fun _ h9 => h9) rfl (by decide +kernel) rfl rfl (Nat.le_of_ble_eq_true rfl) dX2_attack_52 (fun H locs hP hD hS => ?_)
        have hP : va_P D vwCl [cM hM hO hW hY 3 a] H := hP
        have hD : va_D A [cM hM hO hW hY 3 a] := hD
        refine lv_aload_n hx hb dX2_attack_55 rfl (lv_at hl 0 rfl) ?_
        refine va_get (D := D) (cl := vwCl) (ci := 2) (v := .int 3) (C := RX2) (T := TX2) (N := 16) hx hb hts in_X2_attack_X2 hown hK hP 0 rfl rfl 0 (by decide) (hts (.fieldLink RX2 20 "WitchTrialModel" "thrown" "I") (List.mem_of_getElem? (i := 4) rfl)) (fun _ h9 => h9) rfl dX2_attack_56 ?_
        refine lv_if_le (tgt := 64) hx hb dX2_attack_59 (by decide) (fun c_4 => ?_) (fun c_4 => ?_)
        · exact absurd c_4 (by decide)
        · refine lv_iconst (v := 0) hx hb dX2_attack_62 (by decide) ?_
          have hP9 : va_P D vwCl [cM hM hO hW hY (kAt a q) a] H := by
            have e9_0 : (kAt a q) = 3 := by (first | rfl | (simp only [kAt, bI, c_1, c_2, c_3, eq_self, ↓reduceIte]; done) | (simp only [kAt, bI, c_1, c_2, c_3, eq_self, ↓reduceIte]; rfl) | (simp only [kAt, bI, eq_true c_1, c_2, c_3, eq_self, ↓reduceIte]; done) | (simp only [kAt, bI, eq_true c_1, c_2, c_3, eq_self, ↓reduceIte]; rfl) | (simp [kAt, bI, eq_true c_1, c_2, c_3]; done) | simp [kAt, bI, c_1, c_2, c_3])
            rw [e9_0]
            exact hP
          exact mi_iret hx hb hr hlocks hS (by rfl) hP9 dX2_attack_63
      · have c_3 : (xHas (a 6) q) = true := bI_1 c_3
        refine lv_aload_n hx hb dX2_attack_36 rfl (lv_at hl 0 rfl) ?_
        refine va_get (D := D) (cl := vwCl) (ci := 2) (v := .int (a 3)) (C := RX2) (T := TX2) (N := 16) hx hb hts in_X2_attack_X2 hown hK hP 0 rfl rfl 3 (by decide) (hts (.fieldLink RX2 43 "WitchTrialModel" "witches" "I") (List.mem_of_getElem? (i := 3) rfl)) (fun _ h9 => h9) rfl dX2_attack_37 ?_
        refine lv_iload_n hx hb dX2_attack_40 rfl (lv_at hl 1 rfl) ?_
        refine rd_S (As := [.int (a 3), .int q]) (rest := [.ref hM]) ⟨hx, hb, hml, hown, hts⟩ (c_X2_has l D cI cZ cJ (a 3) q) (va_cwS 2 hts gX2_attack_X2_has rfl rfl rfl (by decide +kernel) ⟨Nat.le_of_ble_eq_true rfl, Nat.le_of_ble_eq_true rfl⟩) (hP.sub (ws' := []) [] rfl) hK hN rfl hl.1 rfl (Nat.le_of_ble_eq_true rfl) dX2_attack_41 ⟨Nat.le_of_ble_eq_true rfl, Nat.le_of_ble_eq_true rfl⟩ ?_
        refine lv_if_eq (tgt := 51) hx hb dX2_attack_44 (by decide) (fun c_5 => ?_) (fun c_5 => ?_)
        · have c_5 : (xHas (a 3) q) = false := bI_0 c_5
          refine lv_iconst (v := 0) hx hb dX2_attack_51 (by decide) ?_
          refine va_put (D := D) (cl := vwCl) (ci := 2) (v := .int 0) (ty := .int) (C := RX2) (T := TX2) (N := 16) hx hb hts in_X2_attack_X2 tyX2 tyX2_ok nmX2 hown hK hP hD hS 0 rfl rfl 0 (by decide) (hts (.fieldLink RX2 20 "WitchTrialModel" "thrown" "I") (List.mem_of_getElem? (i := 4) rfl)) (fun _ h9 => h9) rfl (by decide +kernel) rfl rfl (Nat.le_of_ble_eq_true rfl) dX2_attack_52 (fun H locs hP hD hS => ?_)
          have hP : va_P D vwCl [cM hM hO hW hY 0 a] H := hP
          have hD : va_D A [cM hM hO hW hY 0 a] := hD
          refine lv_aload_n hx hb dX2_attack_55 rfl (lv_at hl 0 rfl) ?_
          refine va_get (D := D) (cl := vwCl) (ci := 2) (v := .int 0) (C := RX2) (T := TX2) (N := 16) hx hb hts in_X2_attack_X2 hown hK hP 0 rfl rfl 0 (by decide) (hts (.fieldLink RX2 20 "WitchTrialModel" "thrown" "I") (List.mem_of_getElem? (i := 4) rfl)) (fun _ h9 => h9) rfl dX2_attack_56 ?_
          refine lv_if_le (tgt := 64) hx hb dX2_attack_59 (by decide) (fun c_6 => ?_) (fun c_6 => ?_)
          · exact absurd hk (by simp [kAt, bI, c_1, c_2, c_3, c_5])
          · exact absurd c_6 (by decide)
        · have c_5 : (xHas (a 3) q) = true := bI_1 c_5
          refine lv_iconst (v := 3) hx hb dX2_attack_47 (by decide) ?_
          refine lv_goto (tgt := 52) hx hb dX2_attack_48 (by decide) ?_
          refine va_put (D := D) (cl := vwCl) (ci := 2) (v := .int 3) (ty := .int) (C := RX2) (T := TX2) (N := 16) hx hb hts in_X2_attack_X2 tyX2 tyX2_ok nmX2 hown hK hP hD hS 0 rfl rfl 0 (by decide) (hts (.fieldLink RX2 20 "WitchTrialModel" "thrown" "I") (List.mem_of_getElem? (i := 4) rfl)) (fun _ h9 => h9) rfl (by decide +kernel) rfl rfl (Nat.le_of_ble_eq_true rfl) dX2_attack_52 (fun H locs hP hD hS => ?_)
          have hP : va_P D vwCl [cM hM hO hW hY 3 a] H := hP
          have hD : va_D A [cM hM hO hW hY 3 a] := hD
          refine lv_aload_n hx hb dX2_attack_55 rfl (lv_at hl 0 rfl) ?_
          refine va_get (D := D) (cl := vwCl) (ci := 2) (v := .int 3) (C := RX2) (T := TX2) (N := 16) hx hb hts in_X2_attack_X2 hown hK hP 0 rfl rfl 0 (by decide) (hts (.fieldLink RX2 20 "WitchTrialModel" "thrown" "I") (List.mem_of_getElem? (i := 4) rfl)) (fun _ h9 => h9) rfl dX2_attack_56 ?_
          refine lv_if_le (tgt := 64) hx hb dX2_attack_59 (by decide) (fun c_7 => ?_) (fun c_7 => ?_)
          · exact absurd c_7 (by decide)
          · refine lv_iconst (v := 0) hx hb dX2_attack_62 (by decide) ?_
            have hP9 : va_P D vwCl [cM hM hO hW hY (kAt a q) a] H := by
              have e9_0 : (kAt a q) = 3 := by (first | rfl | (simp only [kAt, bI, c_1, c_2, c_3, c_5, eq_self, ↓reduceIte]; done) | (simp only [kAt, bI, c_1, c_2, c_3, c_5, eq_self, ↓reduceIte]; rfl) | (simp only [kAt, bI, eq_true c_1, c_2, c_3, c_5, eq_self, ↓reduceIte]; done) | (simp only [kAt, bI, eq_true c_1, c_2, c_3, c_5, eq_self, ↓reduceIte]; rfl) | (simp [kAt, bI, eq_true c_1, c_2, c_3, c_5]; done) | simp [kAt, bI, c_1, c_2, c_3, c_5])
              rw [e9_0]
              exact hP
            exact mi_iret hx hb hr hlocks hS (by rfl) hP9 dX2_attack_63
    · have c_2 : (xPl a q) = false := bI_0 c_2
      refine lv_iconst (v := 2) hx hb dX2_attack_21 (by decide) ?_
      refine lv_goto (tgt := 52) hx hb dX2_attack_22 (by decide) ?_
      refine va_put (D := D) (cl := vwCl) (ci := 2) (v := .int 2) (ty := .int) (C := RX2) (T := TX2) (N := 16) hx hb hts in_X2_attack_X2 tyX2 tyX2_ok nmX2 hown hK hP hD hS 0 rfl rfl 0 (by decide) (hts (.fieldLink RX2 20 "WitchTrialModel" "thrown" "I") (List.mem_of_getElem? (i := 4) rfl)) (fun _ h9 => h9) rfl (by decide +kernel) rfl rfl (Nat.le_of_ble_eq_true rfl) dX2_attack_52 (fun H locs hP hD hS => ?_)
      have hP : va_P D vwCl [cM hM hO hW hY 2 a] H := hP
      have hD : va_D A [cM hM hO hW hY 2 a] := hD
      refine lv_aload_n hx hb dX2_attack_55 rfl (lv_at hl 0 rfl) ?_
      refine va_get (D := D) (cl := vwCl) (ci := 2) (v := .int 2) (C := RX2) (T := TX2) (N := 16) hx hb hts in_X2_attack_X2 hown hK hP 0 rfl rfl 0 (by decide) (hts (.fieldLink RX2 20 "WitchTrialModel" "thrown" "I") (List.mem_of_getElem? (i := 4) rfl)) (fun _ h9 => h9) rfl dX2_attack_56 ?_
      refine lv_if_le (tgt := 64) hx hb dX2_attack_59 (by decide) (fun c_8 => ?_) (fun c_8 => ?_)
      · exact absurd c_8 (by decide)
      · refine lv_iconst (v := 0) hx hb dX2_attack_62 (by decide) ?_
        have hP9 : va_P D vwCl [cM hM hO hW hY (kAt a q) a] H := by
          have e9_0 : (kAt a q) = 2 := by (first | rfl | (simp only [kAt, bI, c_1, c_2, eq_self, ↓reduceIte]; done) | (simp only [kAt, bI, c_1, c_2, eq_self, ↓reduceIte]; rfl) | (simp only [kAt, bI, eq_true c_1, c_2, eq_self, ↓reduceIte]; done) | (simp only [kAt, bI, eq_true c_1, c_2, eq_self, ↓reduceIte]; rfl) | (simp [kAt, bI, eq_true c_1, c_2]; done) | simp [kAt, bI, c_1, c_2])
          rw [e9_0]
          exact hP
        exact mi_iret hx hb hr hlocks hS (by rfl) hP9 dX2_attack_63
  · refine lv_iconst (v := 1) hx hb dX2_attack_9 (by decide) ?_
    refine lv_goto (tgt := 52) hx hb dX2_attack_10 (by decide) ?_
    refine va_put (D := D) (cl := vwCl) (ci := 2) (v := .int 1) (ty := .int) (C := RX2) (T := TX2) (N := 16) hx hb hts in_X2_attack_X2 tyX2 tyX2_ok nmX2 hown hK hP hD hS 0 rfl rfl 0 (by decide) (hts (.fieldLink RX2 20 "WitchTrialModel" "thrown" "I") (List.mem_of_getElem? (i := 4) rfl)) (fun _ h9 => h9) rfl (by decide +kernel) rfl rfl (Nat.le_of_ble_eq_true rfl) dX2_attack_52 (fun H locs hP hD hS => ?_)
    have hP : va_P D vwCl [cM hM hO hW hY 1 a] H := hP
    have hD : va_D A [cM hM hO hW hY 1 a] := hD
    refine lv_aload_n hx hb dX2_attack_55 rfl (lv_at hl 0 rfl) ?_
    refine va_get (D := D) (cl := vwCl) (ci := 2) (v := .int 1) (C := RX2) (T := TX2) (N := 16) hx hb hts in_X2_attack_X2 hown hK hP 0 rfl rfl 0 (by decide) (hts (.fieldLink RX2 20 "WitchTrialModel" "thrown" "I") (List.mem_of_getElem? (i := 4) rfl)) (fun _ h9 => h9) rfl dX2_attack_56 ?_
    refine lv_if_le (tgt := 64) hx hb dX2_attack_59 (by decide) (fun c_9 => ?_) (fun c_9 => ?_)
    · exact absurd c_9 (by decide)
    · refine lv_iconst (v := 0) hx hb dX2_attack_62 (by decide) ?_
      have hP9 : va_P D vwCl [cM hM hO hW hY (kAt a q) a] H := by
        have e9_0 : (kAt a q) = 1 := by (first | rfl | (simp only [kAt, bI, c_1, eq_self, ↓reduceIte]; done) | (simp only [kAt, bI, c_1, eq_self, ↓reduceIte]; rfl) | simp [kAt, bI, c_1])
        rw [e9_0]
        exact hP
      exact mi_iret hx hb hr hlocks hS (by rfl) hP9 dX2_attack_63

theorem in_X2_look_X2 : ∀ w ∈ wsX20, w ∈ wsX2_look := by decide +kernel
set_option maxHeartbeats 2000000 in
set_option maxRecDepth 100000 in
theorem c_X2_look (l : Launch) (D : va_G) (cI cZ cJ : ClassId) (sz : Nat) (hM : Nat) (hO : Nat) (hW : Nat) (hY : Nat) (th : Int32) (a : Nat → Int32) (q : Int32) (hk : kLo a q = 0) : Mi l D cI cZ cJ yX2_look wsX2_look 2 43 sz [.ref hM, .int q] [cM hM hO hW hY th a] [cM hM hO hW hY 0 (upd a 10 q)] (a 10) := by
  refine mi_of (by decide) rfl (Nat.le_of_ble_eq_true rfl) (fun p e s m below meth c ls A hx hb hr hml hts hown hlocks hin hP hK hN hD hA hS hl => ?_)
  have hl : lv_has ls 3 [(0, .ref hM), (1, .int q)] := hl
  refine lv_aload_n hx hb dX2_look_0 rfl (lv_at hl 0 rfl) ?_
  refine lv_aload_n hx hb dX2_look_1 rfl (lv_at hl 0 rfl) ?_
  refine va_get (D := D) (cl := vwCl) (ci := 2) (v := .int (a 0)) (C := RX2) (T := TX2) (N := 16) hx hb hts in_X2_look_X2 hown hK hP 0 rfl rfl 1 (by decide) (hts (.fieldLink RX2 70 "WitchTrialModel" "phase" "I") (List.mem_of_getElem? (i := 1) rfl)) (fun _ h9 => h9) rfl dX2_look_2 ?_
  refine lv_iconst (v := 2) hx hb dX2_look_5 (by decide) ?_
  refine lv_icmp_ne (tgt := 23) hx hb dX2_look_6 (by decide) (fun c_1 => ?_) (fun c_1 => ?_)
  · refine lv_iconst (v := 1) hx hb dX2_look_23 (by decide) ?_
    refine lv_goto (tgt := 63) hx hb dX2_look_24 (by decide) ?_
    refine va_put (D := D) (cl := vwCl) (ci := 2) (v := .int 1) (ty := .int) (C := RX2) (T := TX2) (N := 16) hx hb hts in_X2_look_X2 tyX2 tyX2_ok nmX2 hown hK hP hD hS 0 rfl rfl 0 (by decide) (hts (.fieldLink RX2 20 "WitchTrialModel" "thrown" "I") (List.mem_of_getElem? (i := 4) rfl)) (fun _ h9 => h9) rfl (by decide +kernel) rfl rfl (Nat.le_of_ble_eq_true rfl) dX2_look_63 (fun H locs hP hD hS => ?_)
    have hP : va_P D vwCl [cM hM hO hW hY 1 a] H := hP
    have hD : va_D A [cM hM hO hW hY 1 a] := hD
    refine lv_aload_n hx hb dX2_look_66 rfl (lv_at hl 0 rfl) ?_
    refine va_get (D := D) (cl := vwCl) (ci := 2) (v := .int 1) (C := RX2) (T := TX2) (N := 16) hx hb hts in_X2_look_X2 hown hK hP 0 rfl rfl 0 (by decide) (hts (.fieldLink RX2 20 "WitchTrialModel" "thrown" "I") (List.mem_of_getElem? (i := 4) rfl)) (fun _ h9 => h9) rfl dX2_look_67 ?_
    refine lv_if_le (tgt := 75) hx hb dX2_look_70 (by decide) (fun c_2 => ?_) (fun c_2 => ?_)
    · exact absurd c_2 (by decide)
    · exact absurd hk (by simp [kLo, bI, c_1])
  · refine lv_aload_n hx hb dX2_look_9 rfl (lv_at hl 0 rfl) ?_
    refine va_get (D := D) (cl := vwCl) (ci := 2) (v := .int (a 6)) (C := RX2) (T := TX2) (N := 16) hx hb hts in_X2_look_X2 hown hK hP 0 rfl rfl 7 (by decide) (hts (.fieldLink RX2 67 "WitchTrialModel" "alive" "I") (List.mem_of_getElem? (i := 2) rfl)) (fun _ h9 => h9) rfl dX2_look_10 ?_
    refine lv_aload_n hx hb dX2_look_13 rfl (lv_at hl 0 rfl) ?_
    refine va_get (D := D) (cl := vwCl) (ci := 2) (v := .int (a 4)) (C := RX2) (T := TX2) (N := 16) hx hb hts in_X2_look_X2 hown hK hP 0 rfl rfl 4 (by decide) (hts (.fieldLink RX2 46 "WitchTrialModel" "seer" "I") (List.mem_of_getElem? (i := 3) rfl)) (fun _ h9 => h9) rfl dX2_look_14 ?_
    refine rd_S (As := [.int (a 6), .int (a 4)]) (rest := [.ref hM]) ⟨hx, hb, hml, hown, hts⟩ (c_X2_has l D cI cZ cJ (a 6) (a 4)) (va_cwS 2 hts gX2_look_X2_has rfl rfl rfl (by decide +kernel) ⟨Nat.le_of_ble_eq_true rfl, Nat.le_of_ble_eq_true rfl⟩) (hP.sub (ws' := []) [] rfl) hK hN rfl hl.1 rfl (Nat.le_of_ble_eq_true rfl) dX2_look_17 ⟨Nat.le_of_ble_eq_true rfl, Nat.le_of_ble_eq_true rfl⟩ ?_
    refine lv_if_ne (tgt := 27) hx hb dX2_look_20 (by decide) (fun c_3 => ?_) (fun c_3 => ?_)
    · have c_3 : (xHas (a 6) (a 4)) = true := bI_1 c_3
      refine lv_aload_n hx hb dX2_look_27 rfl (lv_at hl 0 rfl) ?_
      refine lv_iload_n hx hb dX2_look_28 rfl (lv_at hl 1 rfl) ?_
      refine rd_V (b := hM) (As := [.int q]) (rest := [.ref hM]) ⟨hx, hb, hml, hown, hts⟩ (c_X2_isPlayer l D cI cZ cJ hM hO hW hY th a q) (cwV 1 hts gX2_look_X2_isPlayer rfl rfl rfl (by decide +kernel) ⟨Nat.le_of_ble_eq_true rfl, Nat.le_of_ble_eq_true rfl⟩) (hP.sub (ws' := [cM hM hO hW hY th a]) [0] rfl) hK hN (va_recv hK hP (ci := 2) (q0 := 0) rfl rfl) rfl hl.1 rfl (Nat.le_of_ble_eq_true rfl) dX2_look_29 ⟨Nat.le_of_ble_eq_true rfl, Nat.le_of_ble_eq_true rfl⟩ ?_
      refine lv_if_ne (tgt := 39) hx hb dX2_look_32 (by decide) (fun c_4 => ?_) (fun c_4 => ?_)
      · have c_4 : (xPl a q) = true := bI_1 c_4
        refine lv_aload_n hx hb dX2_look_39 rfl (lv_at hl 0 rfl) ?_
        refine va_get (D := D) (cl := vwCl) (ci := 2) (v := .int (a 6)) (C := RX2) (T := TX2) (N := 16) hx hb hts in_X2_look_X2 hown hK hP 0 rfl rfl 7 (by decide) (hts (.fieldLink RX2 67 "WitchTrialModel" "alive" "I") (List.mem_of_getElem? (i := 2) rfl)) (fun _ h9 => h9) rfl dX2_look_40 ?_
        refine lv_iload_n hx hb dX2_look_43 rfl (lv_at hl 1 rfl) ?_
        refine rd_S (As := [.int (a 6), .int q]) (rest := [.ref hM]) ⟨hx, hb, hml, hown, hts⟩ (c_X2_has l D cI cZ cJ (a 6) q) (va_cwS 2 hts gX2_look_X2_has rfl rfl rfl (by decide +kernel) ⟨Nat.le_of_ble_eq_true rfl, Nat.le_of_ble_eq_true rfl⟩) (hP.sub (ws' := []) [] rfl) hK hN rfl hl.1 rfl (Nat.le_of_ble_eq_true rfl) dX2_look_44 ⟨Nat.le_of_ble_eq_true rfl, Nat.le_of_ble_eq_true rfl⟩ ?_
        refine lv_if_eq (tgt := 58) hx hb dX2_look_47 (by decide) (fun c_5 => ?_) (fun c_5 => ?_)
        · have c_5 : (xHas (a 6) q) = false := bI_0 c_5
          refine lv_iconst (v := 3) hx hb dX2_look_58 (by decide) ?_
          refine lv_goto (tgt := 63) hx hb dX2_look_59 (by decide) ?_
          refine va_put (D := D) (cl := vwCl) (ci := 2) (v := .int 3) (ty := .int) (C := RX2) (T := TX2) (N := 16) hx hb hts in_X2_look_X2 tyX2 tyX2_ok nmX2 hown hK hP hD hS 0 rfl rfl 0 (by decide) (hts (.fieldLink RX2 20 "WitchTrialModel" "thrown" "I") (List.mem_of_getElem? (i := 4) rfl)) (fun _ h9 => h9) rfl (by decide +kernel) rfl rfl (Nat.le_of_ble_eq_true rfl) dX2_look_63 (fun H locs hP hD hS => ?_)
          have hP : va_P D vwCl [cM hM hO hW hY 3 a] H := hP
          have hD : va_D A [cM hM hO hW hY 3 a] := hD
          refine lv_aload_n hx hb dX2_look_66 rfl (lv_at hl 0 rfl) ?_
          refine va_get (D := D) (cl := vwCl) (ci := 2) (v := .int 3) (C := RX2) (T := TX2) (N := 16) hx hb hts in_X2_look_X2 hown hK hP 0 rfl rfl 0 (by decide) (hts (.fieldLink RX2 20 "WitchTrialModel" "thrown" "I") (List.mem_of_getElem? (i := 4) rfl)) (fun _ h9 => h9) rfl dX2_look_67 ?_
          refine lv_if_le (tgt := 75) hx hb dX2_look_70 (by decide) (fun c_6 => ?_) (fun c_6 => ?_)
          · exact absurd c_6 (by decide)
          · exact absurd hk (by simp [kLo, bI, c_1, c_3, c_4, c_5])
        · have c_5 : (xHas (a 6) q) = true := bI_1 c_5
          refine lv_iload_n hx hb dX2_look_50 rfl (lv_at hl 1 rfl) ?_
          refine lv_aload_n hx hb dX2_look_51 rfl (lv_at hl 0 rfl) ?_
          refine va_get (D := D) (cl := vwCl) (ci := 2) (v := .int (a 4)) (C := RX2) (T := TX2) (N := 16) hx hb hts in_X2_look_X2 hown hK hP 0 rfl rfl 4 (by decide) (hts (.fieldLink RX2 46 "WitchTrialModel" "seer" "I") (List.mem_of_getElem? (i := 3) rfl)) (fun _ h9 => h9) rfl dX2_look_52 ?_
          refine lv_icmp_ne (tgt := 62) hx hb dX2_look_55 (by decide) (fun c_7 => ?_) (fun c_7 => ?_)
          · refine lv_iconst (v := 0) hx hb dX2_look_62 (by decide) ?_
            refine va_put (D := D) (cl := vwCl) (ci := 2) (v := .int 0) (ty := .int) (C := RX2) (T := TX2) (N := 16) hx hb hts in_X2_look_X2 tyX2 tyX2_ok nmX2 hown hK hP hD hS 0 rfl rfl 0 (by decide) (hts (.fieldLink RX2 20 "WitchTrialModel" "thrown" "I") (List.mem_of_getElem? (i := 4) rfl)) (fun _ h9 => h9) rfl (by decide +kernel) rfl rfl (Nat.le_of_ble_eq_true rfl) dX2_look_63 (fun H locs hP hD hS => ?_)
            have hP : va_P D vwCl [cM hM hO hW hY 0 a] H := hP
            have hD : va_D A [cM hM hO hW hY 0 a] := hD
            refine lv_aload_n hx hb dX2_look_66 rfl (lv_at hl 0 rfl) ?_
            refine va_get (D := D) (cl := vwCl) (ci := 2) (v := .int 0) (C := RX2) (T := TX2) (N := 16) hx hb hts in_X2_look_X2 hown hK hP 0 rfl rfl 0 (by decide) (hts (.fieldLink RX2 20 "WitchTrialModel" "thrown" "I") (List.mem_of_getElem? (i := 4) rfl)) (fun _ h9 => h9) rfl dX2_look_67 ?_
            refine lv_if_le (tgt := 75) hx hb dX2_look_70 (by decide) (fun c_8 => ?_) (fun c_8 => ?_)
            · refine lv_aload_n hx hb dX2_look_75 rfl (lv_at hl 0 rfl) ?_
              refine va_get (D := D) (cl := vwCl) (ci := 2) (v := .int (a 10)) (C := RX2) (T := TX2) (N := 16) hx hb hts in_X2_look_X2 hown hK hP 0 rfl rfl 14 (by decide) (hts (.fieldLink RX2 91 "WitchTrialModel" "watched" "I") (List.mem_of_getElem? (i := 5) rfl)) (fun _ h9 => h9) rfl dX2_look_76 ?_
              refine lv_istore_n (lv' := [(2, .int (a 10)), (0, .ref hM), (1, .int q)]) hx hb dX2_look_79 rfl hl (by decide) rfl (fun ls hl => ?_)
              refine lv_aload_n hx hb dX2_look_80 rfl (lv_at hl 1 rfl) ?_
              refine lv_iload_n hx hb dX2_look_81 rfl (lv_at hl 2 rfl) ?_
              refine va_put (D := D) (cl := vwCl) (ci := 2) (v := .int q) (ty := .int) (C := RX2) (T := TX2) (N := 16) hx hb hts in_X2_look_X2 tyX2 tyX2_ok nmX2 hown hK hP hD hS 0 rfl rfl 14 (by decide) (hts (.fieldLink RX2 91 "WitchTrialModel" "watched" "I") (List.mem_of_getElem? (i := 5) rfl)) (fun _ h9 => h9) rfl (by decide +kernel) rfl rfl (Nat.le_of_ble_eq_true rfl) dX2_look_82 (fun H locs hP hD hS => ?_)
              have hP : va_P D vwCl [cM hM hO hW hY 0 (upd a 10 q)] H := hP
              have hD : va_D A [cM hM hO hW hY 0 (upd a 10 q)] := hD
              refine lv_iload_n hx hb dX2_look_85 rfl (lv_at hl 0 rfl) ?_
              have hP9 : va_P D vwCl [cM hM hO hW hY 0 (upd a 10 q)] H := by
                exact hP
              exact mi_iret hx hb hr hlocks hS (by rfl) hP9 dX2_look_86
            · exact absurd c_8 (by decide)
          · refine lv_iconst (v := 3) hx hb dX2_look_58 (by decide) ?_
            refine lv_goto (tgt := 63) hx hb dX2_look_59 (by decide) ?_
            refine va_put (D := D) (cl := vwCl) (ci := 2) (v := .int 3) (ty := .int) (C := RX2) (T := TX2) (N := 16) hx hb hts in_X2_look_X2 tyX2 tyX2_ok nmX2 hown hK hP hD hS 0 rfl rfl 0 (by decide) (hts (.fieldLink RX2 20 "WitchTrialModel" "thrown" "I") (List.mem_of_getElem? (i := 4) rfl)) (fun _ h9 => h9) rfl (by decide +kernel) rfl rfl (Nat.le_of_ble_eq_true rfl) dX2_look_63 (fun H locs hP hD hS => ?_)
            have hP : va_P D vwCl [cM hM hO hW hY 3 a] H := hP
            have hD : va_D A [cM hM hO hW hY 3 a] := hD
            refine lv_aload_n hx hb dX2_look_66 rfl (lv_at hl 0 rfl) ?_
            refine va_get (D := D) (cl := vwCl) (ci := 2) (v := .int 3) (C := RX2) (T := TX2) (N := 16) hx hb hts in_X2_look_X2 hown hK hP 0 rfl rfl 0 (by decide) (hts (.fieldLink RX2 20 "WitchTrialModel" "thrown" "I") (List.mem_of_getElem? (i := 4) rfl)) (fun _ h9 => h9) rfl dX2_look_67 ?_
            refine lv_if_le (tgt := 75) hx hb dX2_look_70 (by decide) (fun c_9 => ?_) (fun c_9 => ?_)
            · exact absurd c_9 (by decide)
            · exact absurd hk (by simp [kLo, bI, c_1, c_3, c_4, c_5, eq_true c_7])
      · have c_4 : (xPl a q) = false := bI_0 c_4
        refine lv_iconst (v := 2) hx hb dX2_look_35 (by decide) ?_
        refine lv_goto (tgt := 63) hx hb dX2_look_36 (by decide) ?_
        refine va_put (D := D) (cl := vwCl) (ci := 2) (v := .int 2) (ty := .int) (C := RX2) (T := TX2) (N := 16) hx hb hts in_X2_look_X2 tyX2 tyX2_ok nmX2 hown hK hP hD hS 0 rfl rfl 0 (by decide) (hts (.fieldLink RX2 20 "WitchTrialModel" "thrown" "I") (List.mem_of_getElem? (i := 4) rfl)) (fun _ h9 => h9) rfl (by decide +kernel) rfl rfl (Nat.le_of_ble_eq_true rfl) dX2_look_63 (fun H locs hP hD hS => ?_)
        have hP : va_P D vwCl [cM hM hO hW hY 2 a] H := hP
        have hD : va_D A [cM hM hO hW hY 2 a] := hD
        refine lv_aload_n hx hb dX2_look_66 rfl (lv_at hl 0 rfl) ?_
        refine va_get (D := D) (cl := vwCl) (ci := 2) (v := .int 2) (C := RX2) (T := TX2) (N := 16) hx hb hts in_X2_look_X2 hown hK hP 0 rfl rfl 0 (by decide) (hts (.fieldLink RX2 20 "WitchTrialModel" "thrown" "I") (List.mem_of_getElem? (i := 4) rfl)) (fun _ h9 => h9) rfl dX2_look_67 ?_
        refine lv_if_le (tgt := 75) hx hb dX2_look_70 (by decide) (fun c_10 => ?_) (fun c_10 => ?_)
        · exact absurd c_10 (by decide)
        · exact absurd hk (by simp [kLo, bI, c_1, c_3, c_4])
    · have c_3 : (xHas (a 6) (a 4)) = false := bI_0 c_3
      refine lv_iconst (v := 1) hx hb dX2_look_23 (by decide) ?_
      refine lv_goto (tgt := 63) hx hb dX2_look_24 (by decide) ?_
      refine va_put (D := D) (cl := vwCl) (ci := 2) (v := .int 1) (ty := .int) (C := RX2) (T := TX2) (N := 16) hx hb hts in_X2_look_X2 tyX2 tyX2_ok nmX2 hown hK hP hD hS 0 rfl rfl 0 (by decide) (hts (.fieldLink RX2 20 "WitchTrialModel" "thrown" "I") (List.mem_of_getElem? (i := 4) rfl)) (fun _ h9 => h9) rfl (by decide +kernel) rfl rfl (Nat.le_of_ble_eq_true rfl) dX2_look_63 (fun H locs hP hD hS => ?_)
      have hP : va_P D vwCl [cM hM hO hW hY 1 a] H := hP
      have hD : va_D A [cM hM hO hW hY 1 a] := hD
      refine lv_aload_n hx hb dX2_look_66 rfl (lv_at hl 0 rfl) ?_
      refine va_get (D := D) (cl := vwCl) (ci := 2) (v := .int 1) (C := RX2) (T := TX2) (N := 16) hx hb hts in_X2_look_X2 hown hK hP 0 rfl rfl 0 (by decide) (hts (.fieldLink RX2 20 "WitchTrialModel" "thrown" "I") (List.mem_of_getElem? (i := 4) rfl)) (fun _ h9 => h9) rfl dX2_look_67 ?_
      refine lv_if_le (tgt := 75) hx hb dX2_look_70 (by decide) (fun c_11 => ?_) (fun c_11 => ?_)
      · exact absurd c_11 (by decide)
      · exact absurd hk (by simp [kLo, bI, c_1, c_3])

set_option maxHeartbeats 2000000 in
set_option maxRecDepth 100000 in
theorem f_X2_look (l : Launch) (D : va_G) (cI cZ cJ : ClassId) (sz : Nat) (hM : Nat) (hO : Nat) (hW : Nat) (hY : Nat) (th : Int32) (a : Nat → Int32) (q : Int32) (hk : ¬ kLo a q = 0) : Mi l D cI cZ cJ yX2_look wsX2_look 2 43 sz [.ref hM, .int q] [cM hM hO hW hY th a] [cM hM hO hW hY (kLo a q) a] (0) := by
  refine mi_of (by decide) rfl (Nat.le_of_ble_eq_true rfl) (fun p e s m below meth c ls A hx hb hr hml hts hown hlocks hin hP hK hN hD hA hS hl => ?_)
  have hl : lv_has ls 3 [(0, .ref hM), (1, .int q)] := hl
  refine lv_aload_n hx hb dX2_look_0 rfl (lv_at hl 0 rfl) ?_
  refine lv_aload_n hx hb dX2_look_1 rfl (lv_at hl 0 rfl) ?_
  refine va_get (D := D) (cl := vwCl) (ci := 2) (v := .int (a 0)) (C := RX2) (T := TX2) (N := 16) hx hb hts in_X2_look_X2 hown hK hP 0 rfl rfl 1 (by decide) (hts (.fieldLink RX2 70 "WitchTrialModel" "phase" "I") (List.mem_of_getElem? (i := 1) rfl)) (fun _ h9 => h9) rfl dX2_look_2 ?_
  refine lv_iconst (v := 2) hx hb dX2_look_5 (by decide) ?_
  refine lv_icmp_ne (tgt := 23) hx hb dX2_look_6 (by decide) (fun c_1 => ?_) (fun c_1 => ?_)
  · refine lv_iconst (v := 1) hx hb dX2_look_23 (by decide) ?_
    refine lv_goto (tgt := 63) hx hb dX2_look_24 (by decide) ?_
    refine va_put (D := D) (cl := vwCl) (ci := 2) (v := .int 1) (ty := .int) (C := RX2) (T := TX2) (N := 16) hx hb hts in_X2_look_X2 tyX2 tyX2_ok nmX2 hown hK hP hD hS 0 rfl rfl 0 (by decide) (hts (.fieldLink RX2 20 "WitchTrialModel" "thrown" "I") (List.mem_of_getElem? (i := 4) rfl)) (fun _ h9 => h9) rfl (by decide +kernel) rfl rfl (Nat.le_of_ble_eq_true rfl) dX2_look_63 (fun H locs hP hD hS => ?_)
    have hP : va_P D vwCl [cM hM hO hW hY 1 a] H := hP
    have hD : va_D A [cM hM hO hW hY 1 a] := hD
    refine lv_aload_n hx hb dX2_look_66 rfl (lv_at hl 0 rfl) ?_
    refine va_get (D := D) (cl := vwCl) (ci := 2) (v := .int 1) (C := RX2) (T := TX2) (N := 16) hx hb hts in_X2_look_X2 hown hK hP 0 rfl rfl 0 (by decide) (hts (.fieldLink RX2 20 "WitchTrialModel" "thrown" "I") (List.mem_of_getElem? (i := 4) rfl)) (fun _ h9 => h9) rfl dX2_look_67 ?_
    refine lv_if_le (tgt := 75) hx hb dX2_look_70 (by decide) (fun c_2 => ?_) (fun c_2 => ?_)
    · exact absurd c_2 (by decide)
    · refine lv_iconst (v := 0) hx hb dX2_look_73 (by decide) ?_
      have hP9 : va_P D vwCl [cM hM hO hW hY (kLo a q) a] H := by
        have e9_0 : (kLo a q) = 1 := by (first | rfl | (simp only [kLo, bI, c_1, eq_self, ↓reduceIte]; done) | (simp only [kLo, bI, c_1, eq_self, ↓reduceIte]; rfl) | simp [kLo, bI, c_1])
        rw [e9_0]
        exact hP
      exact mi_iret hx hb hr hlocks hS (by rfl) hP9 dX2_look_74
  · refine lv_aload_n hx hb dX2_look_9 rfl (lv_at hl 0 rfl) ?_
    refine va_get (D := D) (cl := vwCl) (ci := 2) (v := .int (a 6)) (C := RX2) (T := TX2) (N := 16) hx hb hts in_X2_look_X2 hown hK hP 0 rfl rfl 7 (by decide) (hts (.fieldLink RX2 67 "WitchTrialModel" "alive" "I") (List.mem_of_getElem? (i := 2) rfl)) (fun _ h9 => h9) rfl dX2_look_10 ?_
    refine lv_aload_n hx hb dX2_look_13 rfl (lv_at hl 0 rfl) ?_
    refine va_get (D := D) (cl := vwCl) (ci := 2) (v := .int (a 4)) (C := RX2) (T := TX2) (N := 16) hx hb hts in_X2_look_X2 hown hK hP 0 rfl rfl 4 (by decide) (hts (.fieldLink RX2 46 "WitchTrialModel" "seer" "I") (List.mem_of_getElem? (i := 3) rfl)) (fun _ h9 => h9) rfl dX2_look_14 ?_
    refine rd_S (As := [.int (a 6), .int (a 4)]) (rest := [.ref hM]) ⟨hx, hb, hml, hown, hts⟩ (c_X2_has l D cI cZ cJ (a 6) (a 4)) (va_cwS 2 hts gX2_look_X2_has rfl rfl rfl (by decide +kernel) ⟨Nat.le_of_ble_eq_true rfl, Nat.le_of_ble_eq_true rfl⟩) (hP.sub (ws' := []) [] rfl) hK hN rfl hl.1 rfl (Nat.le_of_ble_eq_true rfl) dX2_look_17 ⟨Nat.le_of_ble_eq_true rfl, Nat.le_of_ble_eq_true rfl⟩ ?_
    refine lv_if_ne (tgt := 27) hx hb dX2_look_20 (by decide) (fun c_3 => ?_) (fun c_3 => ?_)
    · have c_3 : (xHas (a 6) (a 4)) = true := bI_1 c_3
      refine lv_aload_n hx hb dX2_look_27 rfl (lv_at hl 0 rfl) ?_
      refine lv_iload_n hx hb dX2_look_28 rfl (lv_at hl 1 rfl) ?_
      refine rd_V (b := hM) (As := [.int q]) (rest := [.ref hM]) ⟨hx, hb, hml, hown, hts⟩ (c_X2_isPlayer l D cI cZ cJ hM hO hW hY th a q) (cwV 1 hts gX2_look_X2_isPlayer rfl rfl rfl (by decide +kernel) ⟨Nat.le_of_ble_eq_true rfl, Nat.le_of_ble_eq_true rfl⟩) (hP.sub (ws' := [cM hM hO hW hY th a]) [0] rfl) hK hN (va_recv hK hP (ci := 2) (q0 := 0) rfl rfl) rfl hl.1 rfl (Nat.le_of_ble_eq_true rfl) dX2_look_29 ⟨Nat.le_of_ble_eq_true rfl, Nat.le_of_ble_eq_true rfl⟩ ?_
      refine lv_if_ne (tgt := 39) hx hb dX2_look_32 (by decide) (fun c_4 => ?_) (fun c_4 => ?_)
      · have c_4 : (xPl a q) = true := bI_1 c_4
        refine lv_aload_n hx hb dX2_look_39 rfl (lv_at hl 0 rfl) ?_
        refine va_get (D := D) (cl := vwCl) (ci := 2) (v := .int (a 6)) (C := RX2) (T := TX2) (N := 16) hx hb hts in_X2_look_X2 hown hK hP 0 rfl rfl 7 (by decide) (hts (.fieldLink RX2 67 "WitchTrialModel" "alive" "I") (List.mem_of_getElem? (i := 2) rfl)) (fun _ h9 => h9) rfl dX2_look_40 ?_
        refine lv_iload_n hx hb dX2_look_43 rfl (lv_at hl 1 rfl) ?_
        refine rd_S (As := [.int (a 6), .int q]) (rest := [.ref hM]) ⟨hx, hb, hml, hown, hts⟩ (c_X2_has l D cI cZ cJ (a 6) q) (va_cwS 2 hts gX2_look_X2_has rfl rfl rfl (by decide +kernel) ⟨Nat.le_of_ble_eq_true rfl, Nat.le_of_ble_eq_true rfl⟩) (hP.sub (ws' := []) [] rfl) hK hN rfl hl.1 rfl (Nat.le_of_ble_eq_true rfl) dX2_look_44 ⟨Nat.le_of_ble_eq_true rfl, Nat.le_of_ble_eq_true rfl⟩ ?_
        refine lv_if_eq (tgt := 58) hx hb dX2_look_47 (by decide) (fun c_5 => ?_) (fun c_5 => ?_)
        · have c_5 : (xHas (a 6) q) = false := bI_0 c_5
          refine lv_iconst (v := 3) hx hb dX2_look_58 (by decide) ?_
          refine lv_goto (tgt := 63) hx hb dX2_look_59 (by decide) ?_
          refine va_put (D := D) (cl := vwCl) (ci := 2) (v := .int 3) (ty := .int) (C := RX2) (T := TX2) (N := 16) hx hb hts in_X2_look_X2 tyX2 tyX2_ok nmX2 hown hK hP hD hS 0 rfl rfl 0 (by decide) (hts (.fieldLink RX2 20 "WitchTrialModel" "thrown" "I") (List.mem_of_getElem? (i := 4) rfl)) (fun _ h9 => h9) rfl (by decide +kernel) rfl rfl (Nat.le_of_ble_eq_true rfl) dX2_look_63 (fun H locs hP hD hS => ?_)
          have hP : va_P D vwCl [cM hM hO hW hY 3 a] H := hP
          have hD : va_D A [cM hM hO hW hY 3 a] := hD
          refine lv_aload_n hx hb dX2_look_66 rfl (lv_at hl 0 rfl) ?_
          refine va_get (D := D) (cl := vwCl) (ci := 2) (v := .int 3) (C := RX2) (T := TX2) (N := 16) hx hb hts in_X2_look_X2 hown hK hP 0 rfl rfl 0 (by decide) (hts (.fieldLink RX2 20 "WitchTrialModel" "thrown" "I") (List.mem_of_getElem? (i := 4) rfl)) (fun _ h9 => h9) rfl dX2_look_67 ?_
          refine lv_if_le (tgt := 75) hx hb dX2_look_70 (by decide) (fun c_6 => ?_) (fun c_6 => ?_)
          · exact absurd c_6 (by decide)
          · refine lv_iconst (v := 0) hx hb dX2_look_73 (by decide) ?_
            have hP9 : va_P D vwCl [cM hM hO hW hY (kLo a q) a] H := by
              have e9_0 : (kLo a q) = 3 := by (first | rfl | (simp only [kLo, bI, c_1, c_3, c_4, c_5, eq_self, ↓reduceIte]; done) | (simp only [kLo, bI, c_1, c_3, c_4, c_5, eq_self, ↓reduceIte]; rfl) | (simp only [kLo, bI, eq_true c_1, c_3, c_4, c_5, eq_self, ↓reduceIte]; done) | (simp only [kLo, bI, eq_true c_1, c_3, c_4, c_5, eq_self, ↓reduceIte]; rfl) | (simp [kLo, bI, eq_true c_1, c_3, c_4, c_5]; done) | simp [kLo, bI, c_1, c_3, c_4, c_5])
              rw [e9_0]
              exact hP
            exact mi_iret hx hb hr hlocks hS (by rfl) hP9 dX2_look_74
        · have c_5 : (xHas (a 6) q) = true := bI_1 c_5
          refine lv_iload_n hx hb dX2_look_50 rfl (lv_at hl 1 rfl) ?_
          refine lv_aload_n hx hb dX2_look_51 rfl (lv_at hl 0 rfl) ?_
          refine va_get (D := D) (cl := vwCl) (ci := 2) (v := .int (a 4)) (C := RX2) (T := TX2) (N := 16) hx hb hts in_X2_look_X2 hown hK hP 0 rfl rfl 4 (by decide) (hts (.fieldLink RX2 46 "WitchTrialModel" "seer" "I") (List.mem_of_getElem? (i := 3) rfl)) (fun _ h9 => h9) rfl dX2_look_52 ?_
          refine lv_icmp_ne (tgt := 62) hx hb dX2_look_55 (by decide) (fun c_7 => ?_) (fun c_7 => ?_)
          · refine lv_iconst (v := 0) hx hb dX2_look_62 (by decide) ?_
            refine va_put (D := D) (cl := vwCl) (ci := 2) (v := .int 0) (ty := .int) (C := RX2) (T := TX2) (N := 16) hx hb hts in_X2_look_X2 tyX2 tyX2_ok nmX2 hown hK hP hD hS 0 rfl rfl 0 (by decide) (hts (.fieldLink RX2 20 "WitchTrialModel" "thrown" "I") (List.mem_of_getElem? (i := 4) rfl)) (fun _ h9 => h9) rfl (by decide +kernel) rfl rfl (Nat.le_of_ble_eq_true rfl) dX2_look_63 (fun H locs hP hD hS => ?_)
            have hP : va_P D vwCl [cM hM hO hW hY 0 a] H := hP
            have hD : va_D A [cM hM hO hW hY 0 a] := hD
            refine lv_aload_n hx hb dX2_look_66 rfl (lv_at hl 0 rfl) ?_
            refine va_get (D := D) (cl := vwCl) (ci := 2) (v := .int 0) (C := RX2) (T := TX2) (N := 16) hx hb hts in_X2_look_X2 hown hK hP 0 rfl rfl 0 (by decide) (hts (.fieldLink RX2 20 "WitchTrialModel" "thrown" "I") (List.mem_of_getElem? (i := 4) rfl)) (fun _ h9 => h9) rfl dX2_look_67 ?_
            refine lv_if_le (tgt := 75) hx hb dX2_look_70 (by decide) (fun c_8 => ?_) (fun c_8 => ?_)
            · exact absurd hk (by simp [kLo, bI, c_1, c_3, c_4, c_5, c_7])
            · exact absurd c_8 (by decide)
          · refine lv_iconst (v := 3) hx hb dX2_look_58 (by decide) ?_
            refine lv_goto (tgt := 63) hx hb dX2_look_59 (by decide) ?_
            refine va_put (D := D) (cl := vwCl) (ci := 2) (v := .int 3) (ty := .int) (C := RX2) (T := TX2) (N := 16) hx hb hts in_X2_look_X2 tyX2 tyX2_ok nmX2 hown hK hP hD hS 0 rfl rfl 0 (by decide) (hts (.fieldLink RX2 20 "WitchTrialModel" "thrown" "I") (List.mem_of_getElem? (i := 4) rfl)) (fun _ h9 => h9) rfl (by decide +kernel) rfl rfl (Nat.le_of_ble_eq_true rfl) dX2_look_63 (fun H locs hP hD hS => ?_)
            have hP : va_P D vwCl [cM hM hO hW hY 3 a] H := hP
            have hD : va_D A [cM hM hO hW hY 3 a] := hD
            refine lv_aload_n hx hb dX2_look_66 rfl (lv_at hl 0 rfl) ?_
            refine va_get (D := D) (cl := vwCl) (ci := 2) (v := .int 3) (C := RX2) (T := TX2) (N := 16) hx hb hts in_X2_look_X2 hown hK hP 0 rfl rfl 0 (by decide) (hts (.fieldLink RX2 20 "WitchTrialModel" "thrown" "I") (List.mem_of_getElem? (i := 4) rfl)) (fun _ h9 => h9) rfl dX2_look_67 ?_
            refine lv_if_le (tgt := 75) hx hb dX2_look_70 (by decide) (fun c_9 => ?_) (fun c_9 => ?_)
            · exact absurd c_9 (by decide)
            · refine lv_iconst (v := 0) hx hb dX2_look_73 (by decide) ?_
              have hP9 : va_P D vwCl [cM hM hO hW hY (kLo a q) a] H := by
                have e9_0 : (kLo a q) = 3 := by (first | rfl | (simp only [kLo, bI, c_1, c_3, c_4, c_5, eq_true c_7, eq_self, ↓reduceIte]; done) | (simp only [kLo, bI, c_1, c_3, c_4, c_5, eq_true c_7, eq_self, ↓reduceIte]; rfl) | (simp only [kLo, bI, eq_true c_1, c_3, c_4, c_5, eq_true c_7, eq_self, ↓reduceIte]; done) | (simp only [kLo, bI, eq_true c_1, c_3, c_4, c_5, eq_true c_7, eq_self, ↓reduceIte]; rfl) | (simp [kLo, bI, eq_true c_1, c_3, c_4, c_5, eq_true c_7]; done) | simp [kLo, bI, c_1, c_3, c_4, c_5, eq_true c_7])
                rw [e9_0]
                exact hP
              exact mi_iret hx hb hr hlocks hS (by rfl) hP9 dX2_look_74
      · have c_4 : (xPl a q) = false := bI_0 c_4
        refine lv_iconst (v := 2) hx hb dX2_look_35 (by decide) ?_
        refine lv_goto (tgt := 63) hx hb dX2_look_36 (by decide) ?_
        refine va_put (D := D) (cl := vwCl) (ci := 2) (v := .int 2) (ty := .int) (C := RX2) (T := TX2) (N := 16) hx hb hts in_X2_look_X2 tyX2 tyX2_ok nmX2 hown hK hP hD hS 0 rfl rfl 0 (by decide) (hts (.fieldLink RX2 20 "WitchTrialModel" "thrown" "I") (List.mem_of_getElem? (i := 4) rfl)) (fun _ h9 => h9) rfl (by decide +kernel) rfl rfl (Nat.le_of_ble_eq_true rfl) dX2_look_63 (fun H locs hP hD hS => ?_)
        have hP : va_P D vwCl [cM hM hO hW hY 2 a] H := hP
        have hD : va_D A [cM hM hO hW hY 2 a] := hD
        refine lv_aload_n hx hb dX2_look_66 rfl (lv_at hl 0 rfl) ?_
        refine va_get (D := D) (cl := vwCl) (ci := 2) (v := .int 2) (C := RX2) (T := TX2) (N := 16) hx hb hts in_X2_look_X2 hown hK hP 0 rfl rfl 0 (by decide) (hts (.fieldLink RX2 20 "WitchTrialModel" "thrown" "I") (List.mem_of_getElem? (i := 4) rfl)) (fun _ h9 => h9) rfl dX2_look_67 ?_
        refine lv_if_le (tgt := 75) hx hb dX2_look_70 (by decide) (fun c_10 => ?_) (fun c_10 => ?_)
        · exact absurd c_10 (by decide)
        · refine lv_iconst (v := 0) hx hb dX2_look_73 (by decide) ?_
          have hP9 : va_P D vwCl [cM hM hO hW hY (kLo a q) a] H := by
            have e9_0 : (kLo a q) = 2 := by (first | rfl | (simp only [kLo, bI, c_1, c_3, c_4, eq_self, ↓reduceIte]; done) | (simp only [kLo, bI, c_1, c_3, c_4, eq_self, ↓reduceIte]; rfl) | (simp only [kLo, bI, eq_true c_1, c_3, c_4, eq_self, ↓reduceIte]; done) | (simp only [kLo, bI, eq_true c_1, c_3, c_4, eq_self, ↓reduceIte]; rfl) | (simp [kLo, bI, eq_true c_1, c_3, c_4]; done) | simp [kLo, bI, c_1, c_3, c_4])
            rw [e9_0]
            exact hP
          exact mi_iret hx hb hr hlocks hS (by rfl) hP9 dX2_look_74
    · have c_3 : (xHas (a 6) (a 4)) = false := bI_0 c_3
      refine lv_iconst (v := 1) hx hb dX2_look_23 (by decide) ?_
      refine lv_goto (tgt := 63) hx hb dX2_look_24 (by decide) ?_
      refine va_put (D := D) (cl := vwCl) (ci := 2) (v := .int 1) (ty := .int) (C := RX2) (T := TX2) (N := 16) hx hb hts in_X2_look_X2 tyX2 tyX2_ok nmX2 hown hK hP hD hS 0 rfl rfl 0 (by decide) (hts (.fieldLink RX2 20 "WitchTrialModel" "thrown" "I") (List.mem_of_getElem? (i := 4) rfl)) (fun _ h9 => h9) rfl (by decide +kernel) rfl rfl (Nat.le_of_ble_eq_true rfl) dX2_look_63 (fun H locs hP hD hS => ?_)
      have hP : va_P D vwCl [cM hM hO hW hY 1 a] H := hP
      have hD : va_D A [cM hM hO hW hY 1 a] := hD
      refine lv_aload_n hx hb dX2_look_66 rfl (lv_at hl 0 rfl) ?_
      refine va_get (D := D) (cl := vwCl) (ci := 2) (v := .int 1) (C := RX2) (T := TX2) (N := 16) hx hb hts in_X2_look_X2 hown hK hP 0 rfl rfl 0 (by decide) (hts (.fieldLink RX2 20 "WitchTrialModel" "thrown" "I") (List.mem_of_getElem? (i := 4) rfl)) (fun _ h9 => h9) rfl dX2_look_67 ?_
      refine lv_if_le (tgt := 75) hx hb dX2_look_70 (by decide) (fun c_11 => ?_) (fun c_11 => ?_)
      · exact absurd c_11 (by decide)
      · refine lv_iconst (v := 0) hx hb dX2_look_73 (by decide) ?_
        have hP9 : va_P D vwCl [cM hM hO hW hY (kLo a q) a] H := by
          have e9_0 : (kLo a q) = 1 := by (first | rfl | (simp only [kLo, bI, c_1, c_3, eq_self, ↓reduceIte]; done) | (simp only [kLo, bI, c_1, c_3, eq_self, ↓reduceIte]; rfl) | (simp only [kLo, bI, eq_true c_1, c_3, eq_self, ↓reduceIte]; done) | (simp only [kLo, bI, eq_true c_1, c_3, eq_self, ↓reduceIte]; rfl) | (simp [kLo, bI, eq_true c_1, c_3]; done) | simp [kLo, bI, c_1, c_3])
          rw [e9_0]
          exact hP
        exact mi_iret hx hb hr hlocks hS (by rfl) hP9 dX2_look_74

theorem in_X2_endNight_X2 : ∀ w ∈ wsX20, w ∈ wsX2_endNight := by decide +kernel
set_option maxHeartbeats 2000000 in
set_option maxRecDepth 100000 in
theorem c_X2_endNight (l : Launch) (D : va_G) (cI cZ cJ : ClassId) (sz : Nat) (hM : Nat) (hO : Nat) (hW : Nat) (hY : Nat) (th : Int32) (a : Nat → Int32) (o : Nat → Bool) (v : Nat → Int32) (hk : a 0 = 2) : Mi l D cI cZ cJ yX2_endNight wsX2_endNight 3 65 sz [.ref hM] [cM hM hO hW hY th a, cA cZ hO 16384 (fun w => bI (o w)), cA cI hW 8 v] [cM hM hO hW hY 0 (aEn a), cA cZ hO 16384 (fun w => bI ((oDi a o (xDead a)) w)), cA cI hW 8 (iUp vM v 8)] (xDead a) := by
  refine mi_of (by decide) rfl (Nat.le_of_ble_eq_true rfl) (fun p e s m below meth c ls A hx hb hr hml hts hown hlocks hin hP hK hN hD hA hS hl => ?_)
  have hl : lv_has ls 2 [(0, .ref hM)] := hl
  refine lv_aload_n hx hb dX2_endNight_0 rfl (lv_at hl 0 rfl) ?_
  refine lv_aload_n hx hb dX2_endNight_1 rfl (lv_at hl 0 rfl) ?_
  refine va_get (D := D) (cl := vwCl) (ci := 2) (v := .int (a 0)) (C := RX2) (T := TX2) (N := 16) hx hb hts in_X2_endNight_X2 hown hK hP 0 rfl rfl 1 (by decide) (hts (.fieldLink RX2 70 "WitchTrialModel" "phase" "I") (List.mem_of_getElem? (i := 1) rfl)) (fun _ h9 => h9) rfl dX2_endNight_2 ?_
  refine lv_iconst (v := 2) hx hb dX2_endNight_5 (by decide) ?_
  refine lv_icmp_ne (tgt := 13) hx hb dX2_endNight_6 (by decide) (fun c_1 => ?_) (fun c_1 => ?_)
  · refine lv_iconst (v := 1) hx hb dX2_endNight_13 (by decide) ?_
    refine va_put (D := D) (cl := vwCl) (ci := 2) (v := .int 1) (ty := .int) (C := RX2) (T := TX2) (N := 16) hx hb hts in_X2_endNight_X2 tyX2 tyX2_ok nmX2 hown hK hP hD hS 0 rfl rfl 0 (by decide) (hts (.fieldLink RX2 20 "WitchTrialModel" "thrown" "I") (List.mem_of_getElem? (i := 2) rfl)) (fun _ h9 => h9) rfl (by decide +kernel) rfl rfl (Nat.le_of_ble_eq_true rfl) dX2_endNight_14 (fun H locs hP hD hS => ?_)
    have hP : va_P D vwCl [cM hM hO hW hY 1 a, cA cZ hO 16384 (fun w => bI (o w)), cA cI hW 8 v] H := hP
    have hD : va_D A [cM hM hO hW hY 1 a, cA cZ hO 16384 (fun w => bI (o w)), cA cI hW 8 v] := hD
    refine lv_aload_n hx hb dX2_endNight_17 rfl (lv_at hl 0 rfl) ?_
    refine va_get (D := D) (cl := vwCl) (ci := 2) (v := .int 1) (C := RX2) (T := TX2) (N := 16) hx hb hts in_X2_endNight_X2 hown hK hP 0 rfl rfl 0 (by decide) (hts (.fieldLink RX2 20 "WitchTrialModel" "thrown" "I") (List.mem_of_getElem? (i := 2) rfl)) (fun _ h9 => h9) rfl dX2_endNight_18 ?_
    refine lv_if_le (tgt := 26) hx hb dX2_endNight_21 (by decide) (fun c_2 => ?_) (fun c_2 => ?_)
    · exact absurd c_2 (by decide)
    · exact absurd hk (by simp [aEn, aD2, aD1, oDi, xDead, bI, c_1])
  · refine lv_iconst (v := 0) hx hb dX2_endNight_9 (by decide) ?_
    refine lv_goto (tgt := 14) hx hb dX2_endNight_10 (by decide) ?_
    refine va_put (D := D) (cl := vwCl) (ci := 2) (v := .int 0) (ty := .int) (C := RX2) (T := TX2) (N := 16) hx hb hts in_X2_endNight_X2 tyX2 tyX2_ok nmX2 hown hK hP hD hS 0 rfl rfl 0 (by decide) (hts (.fieldLink RX2 20 "WitchTrialModel" "thrown" "I") (List.mem_of_getElem? (i := 2) rfl)) (fun _ h9 => h9) rfl (by decide +kernel) rfl rfl (Nat.le_of_ble_eq_true rfl) dX2_endNight_14 (fun H locs hP hD hS => ?_)
    have hP : va_P D vwCl [cM hM hO hW hY 0 a, cA cZ hO 16384 (fun w => bI (o w)), cA cI hW 8 v] H := hP
    have hD : va_D A [cM hM hO hW hY 0 a, cA cZ hO 16384 (fun w => bI (o w)), cA cI hW 8 v] := hD
    refine lv_aload_n hx hb dX2_endNight_17 rfl (lv_at hl 0 rfl) ?_
    refine va_get (D := D) (cl := vwCl) (ci := 2) (v := .int 0) (C := RX2) (T := TX2) (N := 16) hx hb hts in_X2_endNight_X2 hown hK hP 0 rfl rfl 0 (by decide) (hts (.fieldLink RX2 20 "WitchTrialModel" "thrown" "I") (List.mem_of_getElem? (i := 2) rfl)) (fun _ h9 => h9) rfl dX2_endNight_18 ?_
    refine lv_if_le (tgt := 26) hx hb dX2_endNight_21 (by decide) (fun c_3 => ?_) (fun c_3 => ?_)
    · refine lv_aload_n hx hb dX2_endNight_26 rfl (lv_at hl 0 rfl) ?_
      refine va_get (D := D) (cl := vwCl) (ci := 2) (v := .int (a 9)) (C := RX2) (T := TX2) (N := 16) hx hb hts in_X2_endNight_X2 hown hK hP 0 rfl rfl 13 (by decide) (hts (.fieldLink RX2 88 "WitchTrialModel" "attacked" "I") (List.mem_of_getElem? (i := 3) rfl)) (fun _ h9 => h9) rfl dX2_endNight_27 ?_
      refine lv_aload_n hx hb dX2_endNight_30 rfl (lv_at hl 0 rfl) ?_
      refine va_get (D := D) (cl := vwCl) (ci := 2) (v := .int (a 8)) (C := RX2) (T := TX2) (N := 16) hx hb hts in_X2_endNight_X2 hown hK hP 0 rfl rfl 11 (by decide) (hts (.fieldLink RX2 85 "WitchTrialModel" "shielded" "I") (List.mem_of_getElem? (i := 4) rfl)) (fun _ h9 => h9) rfl dX2_endNight_31 ?_
      refine lv_icmp_ne (tgt := 41) hx hb dX2_endNight_34 (by decide) (fun c_4 => ?_) (fun c_4 => ?_)
      · refine lv_aload_n hx hb dX2_endNight_41 rfl (lv_at hl 0 rfl) ?_
        refine va_get (D := D) (cl := vwCl) (ci := 2) (v := .int (a 9)) (C := RX2) (T := TX2) (N := 16) hx hb hts in_X2_endNight_X2 hown hK hP 0 rfl rfl 13 (by decide) (hts (.fieldLink RX2 88 "WitchTrialModel" "attacked" "I") (List.mem_of_getElem? (i := 3) rfl)) (fun _ h9 => h9) rfl dX2_endNight_42 ?_
        refine lv_istore_n (lv' := [(1, .int (a 9)), (0, .ref hM)]) hx hb dX2_endNight_45 rfl hl (by decide) rfl (fun ls hl => ?_)
        refine lv_iload_n hx hb dX2_endNight_46 rfl (lv_at hl 0 rfl) ?_
        refine lv_iconst (v := (-1)) hx hb dX2_endNight_47 (by decide) ?_
        refine lv_icmp_eq (tgt := 56) hx hb dX2_endNight_48 (by decide) (fun c_5 => ?_) (fun c_5 => ?_)
        · refine lv_aload_n hx hb dX2_endNight_56 rfl (lv_at hl 1 rfl) ?_
          refine va_get (D := D) (cl := vwCl) (ci := 2) (v := .int (a 0)) (C := RX2) (T := TX2) (N := 16) hx hb hts in_X2_endNight_X2 hown hK hP 0 rfl rfl 1 (by decide) (hts (.fieldLink RX2 70 "WitchTrialModel" "phase" "I") (List.mem_of_getElem? (i := 1) rfl)) (fun _ h9 => h9) rfl dX2_endNight_57 ?_
          refine lv_iconst (v := 2) hx hb dX2_endNight_60 (by decide) ?_
          refine lv_icmp_ne (tgt := 120) hx hb dX2_endNight_61 (by decide) (fun c_6 => ?_) (fun c_6 => ?_)
          · exact absurd c_1 c_6
          · refine lv_aload_n hx hb dX2_endNight_64 rfl (lv_at hl 1 rfl) ?_
            refine lv_dup hx hb dX2_endNight_65 rfl ?_
            refine va_get (D := D) (cl := vwCl) (ci := 2) (v := .int (a 7)) (C := RX2) (T := TX2) (N := 16) hx hb hts in_X2_endNight_X2 hown hK hP 0 rfl rfl 9 (by decide) (hts (.fieldLink RX2 60 "WitchTrialModel" "looked" "I") (List.mem_of_getElem? (i := 5) rfl)) (fun _ h9 => h9) rfl dX2_endNight_66 ?_
            refine lv_aload_n hx hb dX2_endNight_69 rfl (lv_at hl 1 rfl) ?_
            refine va_get (D := D) (cl := vwCl) (ci := 2) (v := .int (a 6)) (C := RX2) (T := TX2) (N := 16) hx hb hts in_X2_endNight_X2 hown hK hP 0 rfl rfl 7 (by decide) (hts (.fieldLink RX2 67 "WitchTrialModel" "alive" "I") (List.mem_of_getElem? (i := 6) rfl)) (fun _ h9 => h9) rfl dX2_endNight_70 ?_
            refine lv_aload_n hx hb dX2_endNight_73 rfl (lv_at hl 1 rfl) ?_
            refine va_get (D := D) (cl := vwCl) (ci := 2) (v := .int (a 4)) (C := RX2) (T := TX2) (N := 16) hx hb hts in_X2_endNight_X2 hown hK hP 0 rfl rfl 4 (by decide) (hts (.fieldLink RX2 46 "WitchTrialModel" "seer" "I") (List.mem_of_getElem? (i := 7) rfl)) (fun _ h9 => h9) rfl dX2_endNight_74 ?_
            refine rd_S (As := [.int (a 6), .int (a 4)]) (rest := [.int (a 7), .ref hM]) ⟨hx, hb, hml, hown, hts⟩ (c_X2_has l D cI cZ cJ (a 6) (a 4)) (va_cwS 2 hts gX2_endNight_X2_has rfl rfl rfl (by decide +kernel) ⟨Nat.le_of_ble_eq_true rfl, Nat.le_of_ble_eq_true rfl⟩) (hP.sub (ws' := []) [] rfl) hK hN rfl hl.1 rfl (Nat.le_of_ble_eq_true rfl) dX2_endNight_77 ⟨Nat.le_of_ble_eq_true rfl, Nat.le_of_ble_eq_true rfl⟩ ?_
            refine lv_if_eq (tgt := 100) hx hb dX2_endNight_80 (by decide) (fun c_7 => ?_) (fun c_7 => ?_)
            · have c_7 : (xHas (a 6) (a 4)) = false := bI_0 c_7
              refine lv_iconst (v := 0) hx hb dX2_endNight_100 (by decide) ?_
              refine lv_ior hx hb dX2_endNight_101 ?_
              refine va_put (D := D) (cl := vwCl) (ci := 2) (v := .int ((a 7) ||| 0)) (ty := .int) (C := RX2) (T := TX2) (N := 16) hx hb hts in_X2_endNight_X2 tyX2 tyX2_ok nmX2 hown hK hP hD hS 0 rfl rfl 9 (by decide) (hts (.fieldLink RX2 60 "WitchTrialModel" "looked" "I") (List.mem_of_getElem? (i := 5) rfl)) (fun _ h9 => h9) rfl (by decide +kernel) rfl rfl (Nat.le_of_ble_eq_true rfl) dX2_endNight_102 (fun H locs hP hD hS => ?_)
              have hP : va_P D vwCl [cM hM hO hW hY 0 (upd a 7 ((a 7) ||| 0)), cA cZ hO 16384 (fun w => bI (o w)), cA cI hW 8 v] H := hP
              have hD : va_D A [cM hM hO hW hY 0 (upd a 7 ((a 7) ||| 0)), cA cZ hO 16384 (fun w => bI (o w)), cA cI hW 8 v] := hD
              refine lv_aload_n hx hb dX2_endNight_105 rfl (lv_at hl 1 rfl) ?_
              refine lv_iconst (v := 1) hx hb dX2_endNight_106 (by decide) ?_
              refine va_put (D := D) (cl := vwCl) (ci := 2) (v := .int 1) (ty := .int) (C := RX2) (T := TX2) (N := 16) hx hb hts in_X2_endNight_X2 tyX2 tyX2_ok nmX2 hown hK hP hD hS 0 rfl rfl 1 (by decide) (hts (.fieldLink RX2 70 "WitchTrialModel" "phase" "I") (List.mem_of_getElem? (i := 1) rfl)) (fun _ h9 => h9) rfl (by decide +kernel) rfl rfl (Nat.le_of_ble_eq_true rfl) dX2_endNight_107 (fun H locs hP hD hS => ?_)
              have hP : va_P D vwCl [cM hM hO hW hY 0 (upd (upd a 7 ((a 7) ||| 0)) 0 1), cA cZ hO 16384 (fun w => bI (o w)), cA cI hW 8 v] H := hP
              have hD : va_D A [cM hM hO hW hY 0 (upd (upd a 7 ((a 7) ||| 0)) 0 1), cA cZ hO 16384 (fun w => bI (o w)), cA cI hW 8 v] := hD
              refine lv_aload_n hx hb dX2_endNight_110 rfl (lv_at hl 1 rfl) ?_
              refine lv_dup hx hb dX2_endNight_111 rfl ?_
              refine va_get (D := D) (cl := vwCl) (ci := 2) (v := .int (a 1)) (C := RX2) (T := TX2) (N := 16) hx hb hts in_X2_endNight_X2 hown hK hP 0 rfl rfl 8 (by decide) (hts (.fieldLink RX2 73 "WitchTrialModel" "day" "I") (List.mem_of_getElem? (i := 9) rfl)) (fun _ h9 => h9) rfl dX2_endNight_112 ?_
              refine lv_iconst (v := 1) hx hb dX2_endNight_115 (by decide) ?_
              refine lv_iadd hx hb dX2_endNight_116 ?_
              refine va_put (D := D) (cl := vwCl) (ci := 2) (v := .int ((a 1) + 1)) (ty := .int) (C := RX2) (T := TX2) (N := 16) hx hb hts in_X2_endNight_X2 tyX2 tyX2_ok nmX2 hown hK hP hD hS 0 rfl rfl 8 (by decide) (hts (.fieldLink RX2 73 "WitchTrialModel" "day" "I") (List.mem_of_getElem? (i := 9) rfl)) (fun _ h9 => h9) rfl (by decide +kernel) rfl rfl (Nat.le_of_ble_eq_true rfl) dX2_endNight_117 (fun H locs hP hD hS => ?_)
              have hP : va_P D vwCl [cM hM hO hW hY 0 (upd (upd (upd a 7 ((a 7) ||| 0)) 0 1) 1 ((a 1) + 1)), cA cZ hO 16384 (fun w => bI (o w)), cA cI hW 8 v] H := hP
              have hD : va_D A [cM hM hO hW hY 0 (upd (upd (upd a 7 ((a 7) ||| 0)) 0 1) 1 ((a 1) + 1)), cA cZ hO 16384 (fun w => bI (o w)), cA cI hW 8 v] := hD
              refine lv_aload_n hx hb dX2_endNight_120 rfl (lv_at hl 1 rfl) ?_
              refine lv_aload_n hx hb dX2_endNight_121 rfl (lv_at hl 1 rfl) ?_
              refine va_get (D := D) (cl := vwCl) (ci := 2) (v := .int (a 8)) (C := RX2) (T := TX2) (N := 16) hx hb hts in_X2_endNight_X2 hown hK hP 0 rfl rfl 11 (by decide) (hts (.fieldLink RX2 85 "WitchTrialModel" "shielded" "I") (List.mem_of_getElem? (i := 4) rfl)) (fun _ h9 => h9) rfl dX2_endNight_122 ?_
              refine va_put (D := D) (cl := vwCl) (ci := 2) (v := .int (a 8)) (ty := .int) (C := RX2) (T := TX2) (N := 16) hx hb hts in_X2_endNight_X2 tyX2 tyX2_ok nmX2 hown hK hP hD hS 0 rfl rfl 12 (by decide) (hts (.fieldLink RX2 76 "WitchTrialModel" "shieldedBefore" "I") (List.mem_of_getElem? (i := 10) rfl)) (fun _ h9 => h9) rfl (by decide +kernel) rfl rfl (Nat.le_of_ble_eq_true rfl) dX2_endNight_125 (fun H locs hP hD hS => ?_)
              have hP : va_P D vwCl [cM hM hO hW hY 0 (upd (upd (upd (upd a 7 ((a 7) ||| 0)) 0 1) 1 ((a 1) + 1)) 11 (a 8)), cA cZ hO 16384 (fun w => bI (o w)), cA cI hW 8 v] H := hP
              have hD : va_D A [cM hM hO hW hY 0 (upd (upd (upd (upd a 7 ((a 7) ||| 0)) 0 1) 1 ((a 1) + 1)) 11 (a 8)), cA cZ hO 16384 (fun w => bI (o w)), cA cI hW 8 v] := hD
              refine lv_aload_n hx hb dX2_endNight_128 rfl (lv_at hl 1 rfl) ?_
              refine mv_V (b := hM) (As := []) (rest := []) (W2 := [cM hM hO hW hY 0 (aF (upd (upd (upd (upd a 7 ((a 7) ||| 0)) 0 1) 1 ((a 1) + 1)) 11 (a 8))), cA cZ hO 16384 (fun w => bI (o w)), cA cI hW 8 (iUp vM v 8)]) ⟨hx, hb, hml, hown, hts⟩ (c_X2_forgets l D cI cZ cJ _ hM hO hW hY 0 (upd (upd (upd (upd a 7 ((a 7) ||| 0)) 0 1) 1 ((a 1) + 1)) 11 (a 8)) v) (cwV 0 hts gX2_endNight_X2_forgets rfl rfl rfl (by decide +kernel) ⟨Nat.le_of_ble_eq_true rfl, Nat.le_of_ble_eq_true rfl⟩) hP hD hK hN hS hA (va_recv hK hP (ci := 2) (q0 := 0) rfl rfl) rfl hl.1 rfl (Nat.le_of_ble_eq_true rfl) dX2_endNight_129 ⟨Nat.le_of_ble_eq_true rfl, Nat.le_of_ble_eq_true rfl⟩ [0, 2] [1] rfl rfl rfl (by intro i hi; simp only [List.mem_cons, List.not_mem_nil, or_false] at hi; rcases hi with rfl <;> rfl) rfl 3 rfl (by decide) (by decide) (fun H locs hP hD hS => ?_)
              refine lv_iload_n hx hb dX2_endNight_132 rfl (lv_at hl 0 rfl) ?_
              have hP9 : va_P D vwCl [cM hM hO hW hY 0 (aEn a), cA cZ hO 16384 (fun w => bI ((oDi a o (xDead a)) w)), cA cI hW 8 (iUp vM v 8)] H := by
                have e9_0 : (aEn a) = (aF (upd (upd (upd (upd a 7 ((a 7) ||| 0)) 0 1) 1 ((a 1) + 1)) 11 (a 8))) := by (first | rfl | (simp only [aEn, aD2, aD1, oDi, xDead, bI, c_1, c_4, c_5, c_7, eq_self, ↓reduceIte]; done) | (simp only [aEn, aD2, aD1, oDi, xDead, bI, c_1, c_4, c_5, c_7, eq_self, ↓reduceIte]; rfl) | (simp only [aEn, aD2, aD1, oDi, xDead, bI, eq_true c_1, c_4, eq_true c_5, c_7, eq_self, ↓reduceIte]; done) | (simp only [aEn, aD2, aD1, oDi, xDead, bI, eq_true c_1, c_4, eq_true c_5, c_7, eq_self, ↓reduceIte]; rfl) | (simp [aEn, aD2, aD1, oDi, xDead, bI, eq_true c_1, c_4, eq_true c_5, c_7]; done) | simp [aEn, aD2, aD1, oDi, xDead, bI, c_1, c_4, c_5, c_7])
                have e9_1 : (fun w => bI ((oDi a o (xDead a)) w)) = (fun w => bI (o w)) := by (first | rfl | (simp only [aEn, aD2, aD1, oDi, xDead, bI, c_1, c_4, c_5, c_7, eq_self, ↓reduceIte]; done) | (simp only [aEn, aD2, aD1, oDi, xDead, bI, c_1, c_4, c_5, c_7, eq_self, ↓reduceIte]; rfl) | (simp only [aEn, aD2, aD1, oDi, xDead, bI, eq_true c_1, c_4, eq_true c_5, c_7, eq_self, ↓reduceIte]; done) | (simp only [aEn, aD2, aD1, oDi, xDead, bI, eq_true c_1, c_4, eq_true c_5, c_7, eq_self, ↓reduceIte]; rfl) | (simp [aEn, aD2, aD1, oDi, xDead, bI, eq_true c_1, c_4, eq_true c_5, c_7]; done) | simp [aEn, aD2, aD1, oDi, xDead, bI, c_1, c_4, c_5, c_7])
                rw [e9_0]
                rw [e9_1]
                exact hP
              exact mi_iret hx hb hr hlocks hS (by (first | rfl | (simp only [aEn, aD2, aD1, oDi, xDead, bI, c_1, c_4, c_5, c_7, eq_self, ↓reduceIte]; done) | (simp only [aEn, aD2, aD1, oDi, xDead, bI, c_1, c_4, c_5, c_7, eq_self, ↓reduceIte]; rfl) | (simp only [aEn, aD2, aD1, oDi, xDead, bI, eq_true c_1, c_4, eq_true c_5, c_7, eq_self, ↓reduceIte]; done) | (simp only [aEn, aD2, aD1, oDi, xDead, bI, eq_true c_1, c_4, eq_true c_5, c_7, eq_self, ↓reduceIte]; rfl) | (simp [aEn, aD2, aD1, oDi, xDead, bI, eq_true c_1, c_4, eq_true c_5, c_7]; done) | simp [aEn, aD2, aD1, oDi, xDead, bI, c_1, c_4, c_5, c_7])) hP9 dX2_endNight_133
            · have c_7 : (xHas (a 6) (a 4)) = true := bI_1 c_7
              refine lv_aload_n hx hb dX2_endNight_83 rfl (lv_at hl 1 rfl) ?_
              refine va_get (D := D) (cl := vwCl) (ci := 2) (v := .int (a 10)) (C := RX2) (T := TX2) (N := 16) hx hb hts in_X2_endNight_X2 hown hK hP 0 rfl rfl 14 (by decide) (hts (.fieldLink RX2 91 "WitchTrialModel" "watched" "I") (List.mem_of_getElem? (i := 8) rfl)) (fun _ h9 => h9) rfl dX2_endNight_84 ?_
              refine lv_iconst (v := (-1)) hx hb dX2_endNight_87 (by decide) ?_
              refine lv_icmp_eq (tgt := 100) hx hb dX2_endNight_88 (by decide) (fun c_8 => ?_) (fun c_8 => ?_)
              · refine lv_iconst (v := 0) hx hb dX2_endNight_100 (by decide) ?_
                refine lv_ior hx hb dX2_endNight_101 ?_
                refine va_put (D := D) (cl := vwCl) (ci := 2) (v := .int ((a 7) ||| 0)) (ty := .int) (C := RX2) (T := TX2) (N := 16) hx hb hts in_X2_endNight_X2 tyX2 tyX2_ok nmX2 hown hK hP hD hS 0 rfl rfl 9 (by decide) (hts (.fieldLink RX2 60 "WitchTrialModel" "looked" "I") (List.mem_of_getElem? (i := 5) rfl)) (fun _ h9 => h9) rfl (by decide +kernel) rfl rfl (Nat.le_of_ble_eq_true rfl) dX2_endNight_102 (fun H locs hP hD hS => ?_)
                have hP : va_P D vwCl [cM hM hO hW hY 0 (upd a 7 ((a 7) ||| 0)), cA cZ hO 16384 (fun w => bI (o w)), cA cI hW 8 v] H := hP
                have hD : va_D A [cM hM hO hW hY 0 (upd a 7 ((a 7) ||| 0)), cA cZ hO 16384 (fun w => bI (o w)), cA cI hW 8 v] := hD
                refine lv_aload_n hx hb dX2_endNight_105 rfl (lv_at hl 1 rfl) ?_
                refine lv_iconst (v := 1) hx hb dX2_endNight_106 (by decide) ?_
                refine va_put (D := D) (cl := vwCl) (ci := 2) (v := .int 1) (ty := .int) (C := RX2) (T := TX2) (N := 16) hx hb hts in_X2_endNight_X2 tyX2 tyX2_ok nmX2 hown hK hP hD hS 0 rfl rfl 1 (by decide) (hts (.fieldLink RX2 70 "WitchTrialModel" "phase" "I") (List.mem_of_getElem? (i := 1) rfl)) (fun _ h9 => h9) rfl (by decide +kernel) rfl rfl (Nat.le_of_ble_eq_true rfl) dX2_endNight_107 (fun H locs hP hD hS => ?_)
                have hP : va_P D vwCl [cM hM hO hW hY 0 (upd (upd a 7 ((a 7) ||| 0)) 0 1), cA cZ hO 16384 (fun w => bI (o w)), cA cI hW 8 v] H := hP
                have hD : va_D A [cM hM hO hW hY 0 (upd (upd a 7 ((a 7) ||| 0)) 0 1), cA cZ hO 16384 (fun w => bI (o w)), cA cI hW 8 v] := hD
                refine lv_aload_n hx hb dX2_endNight_110 rfl (lv_at hl 1 rfl) ?_
                refine lv_dup hx hb dX2_endNight_111 rfl ?_
                refine va_get (D := D) (cl := vwCl) (ci := 2) (v := .int (a 1)) (C := RX2) (T := TX2) (N := 16) hx hb hts in_X2_endNight_X2 hown hK hP 0 rfl rfl 8 (by decide) (hts (.fieldLink RX2 73 "WitchTrialModel" "day" "I") (List.mem_of_getElem? (i := 9) rfl)) (fun _ h9 => h9) rfl dX2_endNight_112 ?_
                refine lv_iconst (v := 1) hx hb dX2_endNight_115 (by decide) ?_
                refine lv_iadd hx hb dX2_endNight_116 ?_
                refine va_put (D := D) (cl := vwCl) (ci := 2) (v := .int ((a 1) + 1)) (ty := .int) (C := RX2) (T := TX2) (N := 16) hx hb hts in_X2_endNight_X2 tyX2 tyX2_ok nmX2 hown hK hP hD hS 0 rfl rfl 8 (by decide) (hts (.fieldLink RX2 73 "WitchTrialModel" "day" "I") (List.mem_of_getElem? (i := 9) rfl)) (fun _ h9 => h9) rfl (by decide +kernel) rfl rfl (Nat.le_of_ble_eq_true rfl) dX2_endNight_117 (fun H locs hP hD hS => ?_)
                have hP : va_P D vwCl [cM hM hO hW hY 0 (upd (upd (upd a 7 ((a 7) ||| 0)) 0 1) 1 ((a 1) + 1)), cA cZ hO 16384 (fun w => bI (o w)), cA cI hW 8 v] H := hP
                have hD : va_D A [cM hM hO hW hY 0 (upd (upd (upd a 7 ((a 7) ||| 0)) 0 1) 1 ((a 1) + 1)), cA cZ hO 16384 (fun w => bI (o w)), cA cI hW 8 v] := hD
                refine lv_aload_n hx hb dX2_endNight_120 rfl (lv_at hl 1 rfl) ?_
                refine lv_aload_n hx hb dX2_endNight_121 rfl (lv_at hl 1 rfl) ?_
                refine va_get (D := D) (cl := vwCl) (ci := 2) (v := .int (a 8)) (C := RX2) (T := TX2) (N := 16) hx hb hts in_X2_endNight_X2 hown hK hP 0 rfl rfl 11 (by decide) (hts (.fieldLink RX2 85 "WitchTrialModel" "shielded" "I") (List.mem_of_getElem? (i := 4) rfl)) (fun _ h9 => h9) rfl dX2_endNight_122 ?_
                refine va_put (D := D) (cl := vwCl) (ci := 2) (v := .int (a 8)) (ty := .int) (C := RX2) (T := TX2) (N := 16) hx hb hts in_X2_endNight_X2 tyX2 tyX2_ok nmX2 hown hK hP hD hS 0 rfl rfl 12 (by decide) (hts (.fieldLink RX2 76 "WitchTrialModel" "shieldedBefore" "I") (List.mem_of_getElem? (i := 10) rfl)) (fun _ h9 => h9) rfl (by decide +kernel) rfl rfl (Nat.le_of_ble_eq_true rfl) dX2_endNight_125 (fun H locs hP hD hS => ?_)
                have hP : va_P D vwCl [cM hM hO hW hY 0 (upd (upd (upd (upd a 7 ((a 7) ||| 0)) 0 1) 1 ((a 1) + 1)) 11 (a 8)), cA cZ hO 16384 (fun w => bI (o w)), cA cI hW 8 v] H := hP
                have hD : va_D A [cM hM hO hW hY 0 (upd (upd (upd (upd a 7 ((a 7) ||| 0)) 0 1) 1 ((a 1) + 1)) 11 (a 8)), cA cZ hO 16384 (fun w => bI (o w)), cA cI hW 8 v] := hD
                refine lv_aload_n hx hb dX2_endNight_128 rfl (lv_at hl 1 rfl) ?_
                refine mv_V (b := hM) (As := []) (rest := []) (W2 := [cM hM hO hW hY 0 (aF (upd (upd (upd (upd a 7 ((a 7) ||| 0)) 0 1) 1 ((a 1) + 1)) 11 (a 8))), cA cZ hO 16384 (fun w => bI (o w)), cA cI hW 8 (iUp vM v 8)]) ⟨hx, hb, hml, hown, hts⟩ (c_X2_forgets l D cI cZ cJ _ hM hO hW hY 0 (upd (upd (upd (upd a 7 ((a 7) ||| 0)) 0 1) 1 ((a 1) + 1)) 11 (a 8)) v) (cwV 0 hts gX2_endNight_X2_forgets rfl rfl rfl (by decide +kernel) ⟨Nat.le_of_ble_eq_true rfl, Nat.le_of_ble_eq_true rfl⟩) hP hD hK hN hS hA (va_recv hK hP (ci := 2) (q0 := 0) rfl rfl) rfl hl.1 rfl (Nat.le_of_ble_eq_true rfl) dX2_endNight_129 ⟨Nat.le_of_ble_eq_true rfl, Nat.le_of_ble_eq_true rfl⟩ [0, 2] [1] rfl rfl rfl (by intro i hi; simp only [List.mem_cons, List.not_mem_nil, or_false] at hi; rcases hi with rfl <;> rfl) rfl 3 rfl (by decide) (by decide) (fun H locs hP hD hS => ?_)
                refine lv_iload_n hx hb dX2_endNight_132 rfl (lv_at hl 0 rfl) ?_
                have hP9 : va_P D vwCl [cM hM hO hW hY 0 (aEn a), cA cZ hO 16384 (fun w => bI ((oDi a o (xDead a)) w)), cA cI hW 8 (iUp vM v 8)] H := by
                  have e9_0 : (aEn a) = (aF (upd (upd (upd (upd a 7 ((a 7) ||| 0)) 0 1) 1 ((a 1) + 1)) 11 (a 8))) := by (first | rfl | (simp only [aEn, aD2, aD1, oDi, xDead, bI, c_1, c_4, c_5, c_7, c_8, eq_self, ↓reduceIte]; done) | (simp only [aEn, aD2, aD1, oDi, xDead, bI, c_1, c_4, c_5, c_7, c_8, eq_self, ↓reduceIte]; rfl) | (simp only [aEn, aD2, aD1, oDi, xDead, bI, eq_true c_1, c_4, eq_true c_5, c_7, eq_true c_8, eq_self, ↓reduceIte]; done) | (simp only [aEn, aD2, aD1, oDi, xDead, bI, eq_true c_1, c_4, eq_true c_5, c_7, eq_true c_8, eq_self, ↓reduceIte]; rfl) | (simp [aEn, aD2, aD1, oDi, xDead, bI, eq_true c_1, c_4, eq_true c_5, c_7, eq_true c_8]; done) | simp [aEn, aD2, aD1, oDi, xDead, bI, c_1, c_4, c_5, c_7, c_8])
                  have e9_1 : (fun w => bI ((oDi a o (xDead a)) w)) = (fun w => bI (o w)) := by (first | rfl | (simp only [aEn, aD2, aD1, oDi, xDead, bI, c_1, c_4, c_5, c_7, c_8, eq_self, ↓reduceIte]; done) | (simp only [aEn, aD2, aD1, oDi, xDead, bI, c_1, c_4, c_5, c_7, c_8, eq_self, ↓reduceIte]; rfl) | (simp only [aEn, aD2, aD1, oDi, xDead, bI, eq_true c_1, c_4, eq_true c_5, c_7, eq_true c_8, eq_self, ↓reduceIte]; done) | (simp only [aEn, aD2, aD1, oDi, xDead, bI, eq_true c_1, c_4, eq_true c_5, c_7, eq_true c_8, eq_self, ↓reduceIte]; rfl) | (simp [aEn, aD2, aD1, oDi, xDead, bI, eq_true c_1, c_4, eq_true c_5, c_7, eq_true c_8]; done) | simp [aEn, aD2, aD1, oDi, xDead, bI, c_1, c_4, c_5, c_7, c_8])
                  rw [e9_0]
                  rw [e9_1]
                  exact hP
                exact mi_iret hx hb hr hlocks hS (by (first | rfl | (simp only [aEn, aD2, aD1, oDi, xDead, bI, c_1, c_4, c_5, c_7, c_8, eq_self, ↓reduceIte]; done) | (simp only [aEn, aD2, aD1, oDi, xDead, bI, c_1, c_4, c_5, c_7, c_8, eq_self, ↓reduceIte]; rfl) | (simp only [aEn, aD2, aD1, oDi, xDead, bI, eq_true c_1, c_4, eq_true c_5, c_7, eq_true c_8, eq_self, ↓reduceIte]; done) | (simp only [aEn, aD2, aD1, oDi, xDead, bI, eq_true c_1, c_4, eq_true c_5, c_7, eq_true c_8, eq_self, ↓reduceIte]; rfl) | (simp [aEn, aD2, aD1, oDi, xDead, bI, eq_true c_1, c_4, eq_true c_5, c_7, eq_true c_8]; done) | simp [aEn, aD2, aD1, oDi, xDead, bI, c_1, c_4, c_5, c_7, c_8])) hP9 dX2_endNight_133
              · refine lv_iconst (v := 1) hx hb dX2_endNight_91 (by decide) ?_
                refine lv_aload_n hx hb dX2_endNight_92 rfl (lv_at hl 1 rfl) ?_
                refine va_get (D := D) (cl := vwCl) (ci := 2) (v := .int (a 10)) (C := RX2) (T := TX2) (N := 16) hx hb hts in_X2_endNight_X2 hown hK hP 0 rfl rfl 14 (by decide) (hts (.fieldLink RX2 91 "WitchTrialModel" "watched" "I") (List.mem_of_getElem? (i := 8) rfl)) (fun _ h9 => h9) rfl dX2_endNight_93 ?_
                refine lv_ishl hx hb dX2_endNight_96 ?_
                refine lv_goto (tgt := 101) hx hb dX2_endNight_97 (by decide) ?_
                refine lv_ior hx hb dX2_endNight_101 ?_
                refine va_put (D := D) (cl := vwCl) (ci := 2) (v := .int ((a 7) ||| ((1 : Int32) <<< ((a 10) &&& 31)))) (ty := .int) (C := RX2) (T := TX2) (N := 16) hx hb hts in_X2_endNight_X2 tyX2 tyX2_ok nmX2 hown hK hP hD hS 0 rfl rfl 9 (by decide) (hts (.fieldLink RX2 60 "WitchTrialModel" "looked" "I") (List.mem_of_getElem? (i := 5) rfl)) (fun _ h9 => h9) rfl (by decide +kernel) rfl rfl (Nat.le_of_ble_eq_true rfl) dX2_endNight_102 (fun H locs hP hD hS => ?_)
                have hP : va_P D vwCl [cM hM hO hW hY 0 (upd a 7 ((a 7) ||| ((1 : Int32) <<< ((a 10) &&& 31)))), cA cZ hO 16384 (fun w => bI (o w)), cA cI hW 8 v] H := hP
                have hD : va_D A [cM hM hO hW hY 0 (upd a 7 ((a 7) ||| ((1 : Int32) <<< ((a 10) &&& 31)))), cA cZ hO 16384 (fun w => bI (o w)), cA cI hW 8 v] := hD
                refine lv_aload_n hx hb dX2_endNight_105 rfl (lv_at hl 1 rfl) ?_
                refine lv_iconst (v := 1) hx hb dX2_endNight_106 (by decide) ?_
                refine va_put (D := D) (cl := vwCl) (ci := 2) (v := .int 1) (ty := .int) (C := RX2) (T := TX2) (N := 16) hx hb hts in_X2_endNight_X2 tyX2 tyX2_ok nmX2 hown hK hP hD hS 0 rfl rfl 1 (by decide) (hts (.fieldLink RX2 70 "WitchTrialModel" "phase" "I") (List.mem_of_getElem? (i := 1) rfl)) (fun _ h9 => h9) rfl (by decide +kernel) rfl rfl (Nat.le_of_ble_eq_true rfl) dX2_endNight_107 (fun H locs hP hD hS => ?_)
                have hP : va_P D vwCl [cM hM hO hW hY 0 (upd (upd a 7 ((a 7) ||| ((1 : Int32) <<< ((a 10) &&& 31)))) 0 1), cA cZ hO 16384 (fun w => bI (o w)), cA cI hW 8 v] H := hP
                have hD : va_D A [cM hM hO hW hY 0 (upd (upd a 7 ((a 7) ||| ((1 : Int32) <<< ((a 10) &&& 31)))) 0 1), cA cZ hO 16384 (fun w => bI (o w)), cA cI hW 8 v] := hD
                refine lv_aload_n hx hb dX2_endNight_110 rfl (lv_at hl 1 rfl) ?_
                refine lv_dup hx hb dX2_endNight_111 rfl ?_
                refine va_get (D := D) (cl := vwCl) (ci := 2) (v := .int (a 1)) (C := RX2) (T := TX2) (N := 16) hx hb hts in_X2_endNight_X2 hown hK hP 0 rfl rfl 8 (by decide) (hts (.fieldLink RX2 73 "WitchTrialModel" "day" "I") (List.mem_of_getElem? (i := 9) rfl)) (fun _ h9 => h9) rfl dX2_endNight_112 ?_
                refine lv_iconst (v := 1) hx hb dX2_endNight_115 (by decide) ?_
                refine lv_iadd hx hb dX2_endNight_116 ?_
                refine va_put (D := D) (cl := vwCl) (ci := 2) (v := .int ((a 1) + 1)) (ty := .int) (C := RX2) (T := TX2) (N := 16) hx hb hts in_X2_endNight_X2 tyX2 tyX2_ok nmX2 hown hK hP hD hS 0 rfl rfl 8 (by decide) (hts (.fieldLink RX2 73 "WitchTrialModel" "day" "I") (List.mem_of_getElem? (i := 9) rfl)) (fun _ h9 => h9) rfl (by decide +kernel) rfl rfl (Nat.le_of_ble_eq_true rfl) dX2_endNight_117 (fun H locs hP hD hS => ?_)
                have hP : va_P D vwCl [cM hM hO hW hY 0 (upd (upd (upd a 7 ((a 7) ||| ((1 : Int32) <<< ((a 10) &&& 31)))) 0 1) 1 ((a 1) + 1)), cA cZ hO 16384 (fun w => bI (o w)), cA cI hW 8 v] H := hP
                have hD : va_D A [cM hM hO hW hY 0 (upd (upd (upd a 7 ((a 7) ||| ((1 : Int32) <<< ((a 10) &&& 31)))) 0 1) 1 ((a 1) + 1)), cA cZ hO 16384 (fun w => bI (o w)), cA cI hW 8 v] := hD
                refine lv_aload_n hx hb dX2_endNight_120 rfl (lv_at hl 1 rfl) ?_
                refine lv_aload_n hx hb dX2_endNight_121 rfl (lv_at hl 1 rfl) ?_
                refine va_get (D := D) (cl := vwCl) (ci := 2) (v := .int (a 8)) (C := RX2) (T := TX2) (N := 16) hx hb hts in_X2_endNight_X2 hown hK hP 0 rfl rfl 11 (by decide) (hts (.fieldLink RX2 85 "WitchTrialModel" "shielded" "I") (List.mem_of_getElem? (i := 4) rfl)) (fun _ h9 => h9) rfl dX2_endNight_122 ?_
                refine va_put (D := D) (cl := vwCl) (ci := 2) (v := .int (a 8)) (ty := .int) (C := RX2) (T := TX2) (N := 16) hx hb hts in_X2_endNight_X2 tyX2 tyX2_ok nmX2 hown hK hP hD hS 0 rfl rfl 12 (by decide) (hts (.fieldLink RX2 76 "WitchTrialModel" "shieldedBefore" "I") (List.mem_of_getElem? (i := 10) rfl)) (fun _ h9 => h9) rfl (by decide +kernel) rfl rfl (Nat.le_of_ble_eq_true rfl) dX2_endNight_125 (fun H locs hP hD hS => ?_)
                have hP : va_P D vwCl [cM hM hO hW hY 0 (upd (upd (upd (upd a 7 ((a 7) ||| ((1 : Int32) <<< ((a 10) &&& 31)))) 0 1) 1 ((a 1) + 1)) 11 (a 8)), cA cZ hO 16384 (fun w => bI (o w)), cA cI hW 8 v] H := hP
                have hD : va_D A [cM hM hO hW hY 0 (upd (upd (upd (upd a 7 ((a 7) ||| ((1 : Int32) <<< ((a 10) &&& 31)))) 0 1) 1 ((a 1) + 1)) 11 (a 8)), cA cZ hO 16384 (fun w => bI (o w)), cA cI hW 8 v] := hD
                refine lv_aload_n hx hb dX2_endNight_128 rfl (lv_at hl 1 rfl) ?_
                refine mv_V (b := hM) (As := []) (rest := []) (W2 := [cM hM hO hW hY 0 (aF (upd (upd (upd (upd a 7 ((a 7) ||| ((1 : Int32) <<< ((a 10) &&& 31)))) 0 1) 1 ((a 1) + 1)) 11 (a 8))), cA cZ hO 16384 (fun w => bI (o w)), cA cI hW 8 (iUp vM v 8)]) ⟨hx, hb, hml, hown, hts⟩ (c_X2_forgets l D cI cZ cJ _ hM hO hW hY 0 (upd (upd (upd (upd a 7 ((a 7) ||| ((1 : Int32) <<< ((a 10) &&& 31)))) 0 1) 1 ((a 1) + 1)) 11 (a 8)) v) (cwV 0 hts gX2_endNight_X2_forgets rfl rfl rfl (by decide +kernel) ⟨Nat.le_of_ble_eq_true rfl, Nat.le_of_ble_eq_true rfl⟩) hP hD hK hN hS hA (va_recv hK hP (ci := 2) (q0 := 0) rfl rfl) rfl hl.1 rfl (Nat.le_of_ble_eq_true rfl) dX2_endNight_129 ⟨Nat.le_of_ble_eq_true rfl, Nat.le_of_ble_eq_true rfl⟩ [0, 2] [1] rfl rfl rfl (by intro i hi; simp only [List.mem_cons, List.not_mem_nil, or_false] at hi; rcases hi with rfl <;> rfl) rfl 3 rfl (by decide) (by decide) (fun H locs hP hD hS => ?_)
                refine lv_iload_n hx hb dX2_endNight_132 rfl (lv_at hl 0 rfl) ?_
                have hP9 : va_P D vwCl [cM hM hO hW hY 0 (aEn a), cA cZ hO 16384 (fun w => bI ((oDi a o (xDead a)) w)), cA cI hW 8 (iUp vM v 8)] H := by
                  have e9_0 : (aEn a) = (aF (upd (upd (upd (upd a 7 ((a 7) ||| ((1 : Int32) <<< ((a 10) &&& 31)))) 0 1) 1 ((a 1) + 1)) 11 (a 8))) := by (first | rfl | (simp only [aEn, aD2, aD1, oDi, xDead, bI, c_1, c_4, c_5, c_7, c_8, eq_self, ↓reduceIte]; done) | (simp only [aEn, aD2, aD1, oDi, xDead, bI, c_1, c_4, c_5, c_7, c_8, eq_self, ↓reduceIte]; rfl) | (simp only [aEn, aD2, aD1, oDi, xDead, bI, eq_true c_1, c_4, eq_true c_5, c_7, c_8, eq_self, ↓reduceIte]; done) | (simp only [aEn, aD2, aD1, oDi, xDead, bI, eq_true c_1, c_4, eq_true c_5, c_7, c_8, eq_self, ↓reduceIte]; rfl) | (simp [aEn, aD2, aD1, oDi, xDead, bI, eq_true c_1, c_4, eq_true c_5, c_7, c_8]; done) | simp [aEn, aD2, aD1, oDi, xDead, bI, c_1, c_4, c_5, c_7, c_8])
                  have e9_1 : (fun w => bI ((oDi a o (xDead a)) w)) = (fun w => bI (o w)) := by (first | rfl | (simp only [aEn, aD2, aD1, oDi, xDead, bI, c_1, c_4, c_5, c_7, c_8, eq_self, ↓reduceIte]; done) | (simp only [aEn, aD2, aD1, oDi, xDead, bI, c_1, c_4, c_5, c_7, c_8, eq_self, ↓reduceIte]; rfl) | (simp only [aEn, aD2, aD1, oDi, xDead, bI, eq_true c_1, c_4, eq_true c_5, c_7, c_8, eq_self, ↓reduceIte]; done) | (simp only [aEn, aD2, aD1, oDi, xDead, bI, eq_true c_1, c_4, eq_true c_5, c_7, c_8, eq_self, ↓reduceIte]; rfl) | (simp [aEn, aD2, aD1, oDi, xDead, bI, eq_true c_1, c_4, eq_true c_5, c_7, c_8]; done) | simp [aEn, aD2, aD1, oDi, xDead, bI, c_1, c_4, c_5, c_7, c_8])
                  rw [e9_0]
                  rw [e9_1]
                  exact hP
                exact mi_iret hx hb hr hlocks hS (by (first | rfl | (simp only [aEn, aD2, aD1, oDi, xDead, bI, c_1, c_4, c_5, c_7, c_8, eq_self, ↓reduceIte]; done) | (simp only [aEn, aD2, aD1, oDi, xDead, bI, c_1, c_4, c_5, c_7, c_8, eq_self, ↓reduceIte]; rfl) | (simp only [aEn, aD2, aD1, oDi, xDead, bI, eq_true c_1, c_4, eq_true c_5, c_7, c_8, eq_self, ↓reduceIte]; done) | (simp only [aEn, aD2, aD1, oDi, xDead, bI, eq_true c_1, c_4, eq_true c_5, c_7, c_8, eq_self, ↓reduceIte]; rfl) | (simp [aEn, aD2, aD1, oDi, xDead, bI, eq_true c_1, c_4, eq_true c_5, c_7, c_8]; done) | simp [aEn, aD2, aD1, oDi, xDead, bI, c_1, c_4, c_5, c_7, c_8])) hP9 dX2_endNight_133
        · refine lv_aload_n hx hb dX2_endNight_51 rfl (lv_at hl 1 rfl) ?_
          refine lv_iload_n hx hb dX2_endNight_52 rfl (lv_at hl 0 rfl) ?_
          refine mv_V (b := hM) (As := [.int (a 9)]) (rest := []) (W2 := [cM hM hO hW hY 0 (aDi a (a 9)), cA cZ hO 16384 (fun w => bI ((oUp (nDi a o (a 9)) o 16384) w)), cA cI hW 8 v]) ⟨hx, hb, hml, hown, hts⟩ (c_X2_dies l D cI cZ cJ _ hM hO hW hY 0 a o (a 9)) (cwV 1 hts gX2_endNight_X2_dies rfl rfl rfl (by decide +kernel) ⟨Nat.le_of_ble_eq_true rfl, Nat.le_of_ble_eq_true rfl⟩) hP hD hK hN hS hA (va_recv hK hP (ci := 2) (q0 := 0) rfl rfl) rfl hl.1 rfl (Nat.le_of_ble_eq_true rfl) dX2_endNight_53 ⟨Nat.le_of_ble_eq_true rfl, Nat.le_of_ble_eq_true rfl⟩ [0, 1] [2] rfl rfl rfl (by intro i hi; simp only [List.mem_cons, List.not_mem_nil, or_false] at hi; rcases hi with rfl <;> rfl) rfl 3 rfl (by decide) (by decide) (fun H locs hP hD hS => ?_)
          refine lv_aload_n hx hb dX2_endNight_56 rfl (lv_at hl 1 rfl) ?_
          refine va_get (D := D) (cl := vwCl) (ci := 2) (v := .int ((aDi a (a 9)) 0)) (C := RX2) (T := TX2) (N := 16) hx hb hts in_X2_endNight_X2 hown hK hP 0 rfl rfl 1 (by decide) (hts (.fieldLink RX2 70 "WitchTrialModel" "phase" "I") (List.mem_of_getElem? (i := 1) rfl)) (fun _ h9 => h9) rfl dX2_endNight_57 ?_
          refine lv_iconst (v := 2) hx hb dX2_endNight_60 (by decide) ?_
          refine lv_icmp_ne (tgt := 120) hx hb dX2_endNight_61 (by decide) (fun c_9 => ?_) (fun c_9 => ?_)
          · refine lv_aload_n hx hb dX2_endNight_120 rfl (lv_at hl 1 rfl) ?_
            refine lv_aload_n hx hb dX2_endNight_121 rfl (lv_at hl 1 rfl) ?_
            refine va_get (D := D) (cl := vwCl) (ci := 2) (v := .int ((aDi a (a 9)) 8)) (C := RX2) (T := TX2) (N := 16) hx hb hts in_X2_endNight_X2 hown hK hP 0 rfl rfl 11 (by decide) (hts (.fieldLink RX2 85 "WitchTrialModel" "shielded" "I") (List.mem_of_getElem? (i := 4) rfl)) (fun _ h9 => h9) rfl dX2_endNight_122 ?_
            refine va_put (D := D) (cl := vwCl) (ci := 2) (v := .int ((aDi a (a 9)) 8)) (ty := .int) (C := RX2) (T := TX2) (N := 16) hx hb hts in_X2_endNight_X2 tyX2 tyX2_ok nmX2 hown hK hP hD hS 0 rfl rfl 12 (by decide) (hts (.fieldLink RX2 76 "WitchTrialModel" "shieldedBefore" "I") (List.mem_of_getElem? (i := 10) rfl)) (fun _ h9 => h9) rfl (by decide +kernel) rfl rfl (Nat.le_of_ble_eq_true rfl) dX2_endNight_125 (fun H locs hP hD hS => ?_)
            have hP : va_P D vwCl [cM hM hO hW hY 0 (upd (aDi a (a 9)) 11 ((aDi a (a 9)) 8)), cA cZ hO 16384 (fun w => bI ((oUp (nDi a o (a 9)) o 16384) w)), cA cI hW 8 v] H := hP
            have hD : va_D A [cM hM hO hW hY 0 (upd (aDi a (a 9)) 11 ((aDi a (a 9)) 8)), cA cZ hO 16384 (fun w => bI ((oUp (nDi a o (a 9)) o 16384) w)), cA cI hW 8 v] := hD
            refine lv_aload_n hx hb dX2_endNight_128 rfl (lv_at hl 1 rfl) ?_
            refine mv_V (b := hM) (As := []) (rest := []) (W2 := [cM hM hO hW hY 0 (aF (upd (aDi a (a 9)) 11 ((aDi a (a 9)) 8))), cA cZ hO 16384 (fun w => bI ((oUp (nDi a o (a 9)) o 16384) w)), cA cI hW 8 (iUp vM v 8)]) ⟨hx, hb, hml, hown, hts⟩ (c_X2_forgets l D cI cZ cJ _ hM hO hW hY 0 (upd (aDi a (a 9)) 11 ((aDi a (a 9)) 8)) v) (cwV 0 hts gX2_endNight_X2_forgets rfl rfl rfl (by decide +kernel) ⟨Nat.le_of_ble_eq_true rfl, Nat.le_of_ble_eq_true rfl⟩) hP hD hK hN hS hA (va_recv hK hP (ci := 2) (q0 := 0) rfl rfl) rfl hl.1 rfl (Nat.le_of_ble_eq_true rfl) dX2_endNight_129 ⟨Nat.le_of_ble_eq_true rfl, Nat.le_of_ble_eq_true rfl⟩ [0, 2] [1] rfl rfl rfl (by intro i hi; simp only [List.mem_cons, List.not_mem_nil, or_false] at hi; rcases hi with rfl <;> rfl) rfl 3 rfl (by decide) (by decide) (fun H locs hP hD hS => ?_)
            refine lv_iload_n hx hb dX2_endNight_132 rfl (lv_at hl 0 rfl) ?_
            have hP9 : va_P D vwCl [cM hM hO hW hY 0 (aEn a), cA cZ hO 16384 (fun w => bI ((oDi a o (xDead a)) w)), cA cI hW 8 (iUp vM v 8)] H := by
              have e9_0 : (aEn a) = (aF (upd (aDi a (a 9)) 11 ((aDi a (a 9)) 8))) := by (first | rfl | (simp only [aEn, aD2, aD1, oDi, xDead, bI, c_1, c_4, c_5, c_9, eq_self, ↓reduceIte]; done) | (simp only [aEn, aD2, aD1, oDi, xDead, bI, c_1, c_4, c_5, c_9, eq_self, ↓reduceIte]; rfl) | (simp only [aEn, aD2, aD1, oDi, xDead, bI, eq_true c_1, c_4, c_5, c_9, eq_self, ↓reduceIte]; done) | (simp only [aEn, aD2, aD1, oDi, xDead, bI, eq_true c_1, c_4, c_5, c_9, eq_self, ↓reduceIte]; rfl) | (simp [aEn, aD2, aD1, oDi, xDead, bI, eq_true c_1, c_4, c_5, c_9]; done) | simp [aEn, aD2, aD1, oDi, xDead, bI, c_1, c_4, c_5, c_9])
              have e9_1 : (fun w => bI ((oDi a o (xDead a)) w)) = (fun w => bI ((oUp (nDi a o (a 9)) o 16384) w)) := by (first | rfl | (simp only [aEn, aD2, aD1, oDi, xDead, bI, c_1, c_4, c_5, c_9, eq_self, ↓reduceIte]; done) | (simp only [aEn, aD2, aD1, oDi, xDead, bI, c_1, c_4, c_5, c_9, eq_self, ↓reduceIte]; rfl) | (simp only [aEn, aD2, aD1, oDi, xDead, bI, eq_true c_1, c_4, c_5, c_9, eq_self, ↓reduceIte]; done) | (simp only [aEn, aD2, aD1, oDi, xDead, bI, eq_true c_1, c_4, c_5, c_9, eq_self, ↓reduceIte]; rfl) | (simp [aEn, aD2, aD1, oDi, xDead, bI, eq_true c_1, c_4, c_5, c_9]; done) | simp [aEn, aD2, aD1, oDi, xDead, bI, c_1, c_4, c_5, c_9])
              rw [e9_0]
              rw [e9_1]
              exact hP
            exact mi_iret hx hb hr hlocks hS (by (first | rfl | (simp only [aEn, aD2, aD1, oDi, xDead, bI, c_1, c_4, c_5, c_9, eq_self, ↓reduceIte]; done) | (simp only [aEn, aD2, aD1, oDi, xDead, bI, c_1, c_4, c_5, c_9, eq_self, ↓reduceIte]; rfl) | (simp only [aEn, aD2, aD1, oDi, xDead, bI, eq_true c_1, c_4, c_5, c_9, eq_self, ↓reduceIte]; done) | (simp only [aEn, aD2, aD1, oDi, xDead, bI, eq_true c_1, c_4, c_5, c_9, eq_self, ↓reduceIte]; rfl) | (simp [aEn, aD2, aD1, oDi, xDead, bI, eq_true c_1, c_4, c_5, c_9]; done) | simp [aEn, aD2, aD1, oDi, xDead, bI, c_1, c_4, c_5, c_9])) hP9 dX2_endNight_133
          · refine lv_aload_n hx hb dX2_endNight_64 rfl (lv_at hl 1 rfl) ?_
            refine lv_dup hx hb dX2_endNight_65 rfl ?_
            refine va_get (D := D) (cl := vwCl) (ci := 2) (v := .int ((aDi a (a 9)) 7)) (C := RX2) (T := TX2) (N := 16) hx hb hts in_X2_endNight_X2 hown hK hP 0 rfl rfl 9 (by decide) (hts (.fieldLink RX2 60 "WitchTrialModel" "looked" "I") (List.mem_of_getElem? (i := 5) rfl)) (fun _ h9 => h9) rfl dX2_endNight_66 ?_
            refine lv_aload_n hx hb dX2_endNight_69 rfl (lv_at hl 1 rfl) ?_
            refine va_get (D := D) (cl := vwCl) (ci := 2) (v := .int ((aDi a (a 9)) 6)) (C := RX2) (T := TX2) (N := 16) hx hb hts in_X2_endNight_X2 hown hK hP 0 rfl rfl 7 (by decide) (hts (.fieldLink RX2 67 "WitchTrialModel" "alive" "I") (List.mem_of_getElem? (i := 6) rfl)) (fun _ h9 => h9) rfl dX2_endNight_70 ?_
            refine lv_aload_n hx hb dX2_endNight_73 rfl (lv_at hl 1 rfl) ?_
            refine va_get (D := D) (cl := vwCl) (ci := 2) (v := .int ((aDi a (a 9)) 4)) (C := RX2) (T := TX2) (N := 16) hx hb hts in_X2_endNight_X2 hown hK hP 0 rfl rfl 4 (by decide) (hts (.fieldLink RX2 46 "WitchTrialModel" "seer" "I") (List.mem_of_getElem? (i := 7) rfl)) (fun _ h9 => h9) rfl dX2_endNight_74 ?_
            refine rd_S (As := [.int ((aDi a (a 9)) 6), .int ((aDi a (a 9)) 4)]) (rest := [.int ((aDi a (a 9)) 7), .ref hM]) ⟨hx, hb, hml, hown, hts⟩ (c_X2_has l D cI cZ cJ ((aDi a (a 9)) 6) ((aDi a (a 9)) 4)) (va_cwS 2 hts gX2_endNight_X2_has rfl rfl rfl (by decide +kernel) ⟨Nat.le_of_ble_eq_true rfl, Nat.le_of_ble_eq_true rfl⟩) (hP.sub (ws' := []) [] rfl) hK hN rfl hl.1 rfl (Nat.le_of_ble_eq_true rfl) dX2_endNight_77 ⟨Nat.le_of_ble_eq_true rfl, Nat.le_of_ble_eq_true rfl⟩ ?_
            refine lv_if_eq (tgt := 100) hx hb dX2_endNight_80 (by decide) (fun c_10 => ?_) (fun c_10 => ?_)
            · have c_10 : (xHas ((aDi a (a 9)) 6) ((aDi a (a 9)) 4)) = false := bI_0 c_10
              refine lv_iconst (v := 0) hx hb dX2_endNight_100 (by decide) ?_
              refine lv_ior hx hb dX2_endNight_101 ?_
              refine va_put (D := D) (cl := vwCl) (ci := 2) (v := .int (((aDi a (a 9)) 7) ||| 0)) (ty := .int) (C := RX2) (T := TX2) (N := 16) hx hb hts in_X2_endNight_X2 tyX2 tyX2_ok nmX2 hown hK hP hD hS 0 rfl rfl 9 (by decide) (hts (.fieldLink RX2 60 "WitchTrialModel" "looked" "I") (List.mem_of_getElem? (i := 5) rfl)) (fun _ h9 => h9) rfl (by decide +kernel) rfl rfl (Nat.le_of_ble_eq_true rfl) dX2_endNight_102 (fun H locs hP hD hS => ?_)
              have hP : va_P D vwCl [cM hM hO hW hY 0 (upd (aDi a (a 9)) 7 (((aDi a (a 9)) 7) ||| 0)), cA cZ hO 16384 (fun w => bI ((oUp (nDi a o (a 9)) o 16384) w)), cA cI hW 8 v] H := hP
              have hD : va_D A [cM hM hO hW hY 0 (upd (aDi a (a 9)) 7 (((aDi a (a 9)) 7) ||| 0)), cA cZ hO 16384 (fun w => bI ((oUp (nDi a o (a 9)) o 16384) w)), cA cI hW 8 v] := hD
              refine lv_aload_n hx hb dX2_endNight_105 rfl (lv_at hl 1 rfl) ?_
              refine lv_iconst (v := 1) hx hb dX2_endNight_106 (by decide) ?_
              refine va_put (D := D) (cl := vwCl) (ci := 2) (v := .int 1) (ty := .int) (C := RX2) (T := TX2) (N := 16) hx hb hts in_X2_endNight_X2 tyX2 tyX2_ok nmX2 hown hK hP hD hS 0 rfl rfl 1 (by decide) (hts (.fieldLink RX2 70 "WitchTrialModel" "phase" "I") (List.mem_of_getElem? (i := 1) rfl)) (fun _ h9 => h9) rfl (by decide +kernel) rfl rfl (Nat.le_of_ble_eq_true rfl) dX2_endNight_107 (fun H locs hP hD hS => ?_)
              have hP : va_P D vwCl [cM hM hO hW hY 0 (upd (upd (aDi a (a 9)) 7 (((aDi a (a 9)) 7) ||| 0)) 0 1), cA cZ hO 16384 (fun w => bI ((oUp (nDi a o (a 9)) o 16384) w)), cA cI hW 8 v] H := hP
              have hD : va_D A [cM hM hO hW hY 0 (upd (upd (aDi a (a 9)) 7 (((aDi a (a 9)) 7) ||| 0)) 0 1), cA cZ hO 16384 (fun w => bI ((oUp (nDi a o (a 9)) o 16384) w)), cA cI hW 8 v] := hD
              refine lv_aload_n hx hb dX2_endNight_110 rfl (lv_at hl 1 rfl) ?_
              refine lv_dup hx hb dX2_endNight_111 rfl ?_
              refine va_get (D := D) (cl := vwCl) (ci := 2) (v := .int ((aDi a (a 9)) 1)) (C := RX2) (T := TX2) (N := 16) hx hb hts in_X2_endNight_X2 hown hK hP 0 rfl rfl 8 (by decide) (hts (.fieldLink RX2 73 "WitchTrialModel" "day" "I") (List.mem_of_getElem? (i := 9) rfl)) (fun _ h9 => h9) rfl dX2_endNight_112 ?_
              refine lv_iconst (v := 1) hx hb dX2_endNight_115 (by decide) ?_
              refine lv_iadd hx hb dX2_endNight_116 ?_
              refine va_put (D := D) (cl := vwCl) (ci := 2) (v := .int (((aDi a (a 9)) 1) + 1)) (ty := .int) (C := RX2) (T := TX2) (N := 16) hx hb hts in_X2_endNight_X2 tyX2 tyX2_ok nmX2 hown hK hP hD hS 0 rfl rfl 8 (by decide) (hts (.fieldLink RX2 73 "WitchTrialModel" "day" "I") (List.mem_of_getElem? (i := 9) rfl)) (fun _ h9 => h9) rfl (by decide +kernel) rfl rfl (Nat.le_of_ble_eq_true rfl) dX2_endNight_117 (fun H locs hP hD hS => ?_)
              have hP : va_P D vwCl [cM hM hO hW hY 0 (upd (upd (upd (aDi a (a 9)) 7 (((aDi a (a 9)) 7) ||| 0)) 0 1) 1 (((aDi a (a 9)) 1) + 1)), cA cZ hO 16384 (fun w => bI ((oUp (nDi a o (a 9)) o 16384) w)), cA cI hW 8 v] H := hP
              have hD : va_D A [cM hM hO hW hY 0 (upd (upd (upd (aDi a (a 9)) 7 (((aDi a (a 9)) 7) ||| 0)) 0 1) 1 (((aDi a (a 9)) 1) + 1)), cA cZ hO 16384 (fun w => bI ((oUp (nDi a o (a 9)) o 16384) w)), cA cI hW 8 v] := hD
              refine lv_aload_n hx hb dX2_endNight_120 rfl (lv_at hl 1 rfl) ?_
              refine lv_aload_n hx hb dX2_endNight_121 rfl (lv_at hl 1 rfl) ?_
              refine va_get (D := D) (cl := vwCl) (ci := 2) (v := .int ((aDi a (a 9)) 8)) (C := RX2) (T := TX2) (N := 16) hx hb hts in_X2_endNight_X2 hown hK hP 0 rfl rfl 11 (by decide) (hts (.fieldLink RX2 85 "WitchTrialModel" "shielded" "I") (List.mem_of_getElem? (i := 4) rfl)) (fun _ h9 => h9) rfl dX2_endNight_122 ?_
              refine va_put (D := D) (cl := vwCl) (ci := 2) (v := .int ((aDi a (a 9)) 8)) (ty := .int) (C := RX2) (T := TX2) (N := 16) hx hb hts in_X2_endNight_X2 tyX2 tyX2_ok nmX2 hown hK hP hD hS 0 rfl rfl 12 (by decide) (hts (.fieldLink RX2 76 "WitchTrialModel" "shieldedBefore" "I") (List.mem_of_getElem? (i := 10) rfl)) (fun _ h9 => h9) rfl (by decide +kernel) rfl rfl (Nat.le_of_ble_eq_true rfl) dX2_endNight_125 (fun H locs hP hD hS => ?_)
              have hP : va_P D vwCl [cM hM hO hW hY 0 (upd (upd (upd (upd (aDi a (a 9)) 7 (((aDi a (a 9)) 7) ||| 0)) 0 1) 1 (((aDi a (a 9)) 1) + 1)) 11 ((aDi a (a 9)) 8)), cA cZ hO 16384 (fun w => bI ((oUp (nDi a o (a 9)) o 16384) w)), cA cI hW 8 v] H := hP
              have hD : va_D A [cM hM hO hW hY 0 (upd (upd (upd (upd (aDi a (a 9)) 7 (((aDi a (a 9)) 7) ||| 0)) 0 1) 1 (((aDi a (a 9)) 1) + 1)) 11 ((aDi a (a 9)) 8)), cA cZ hO 16384 (fun w => bI ((oUp (nDi a o (a 9)) o 16384) w)), cA cI hW 8 v] := hD
              refine lv_aload_n hx hb dX2_endNight_128 rfl (lv_at hl 1 rfl) ?_
              refine mv_V (b := hM) (As := []) (rest := []) (W2 := [cM hM hO hW hY 0 (aF (upd (upd (upd (upd (aDi a (a 9)) 7 (((aDi a (a 9)) 7) ||| 0)) 0 1) 1 (((aDi a (a 9)) 1) + 1)) 11 ((aDi a (a 9)) 8))), cA cZ hO 16384 (fun w => bI ((oUp (nDi a o (a 9)) o 16384) w)), cA cI hW 8 (iUp vM v 8)]) ⟨hx, hb, hml, hown, hts⟩ (c_X2_forgets l D cI cZ cJ _ hM hO hW hY 0 (upd (upd (upd (upd (aDi a (a 9)) 7 (((aDi a (a 9)) 7) ||| 0)) 0 1) 1 (((aDi a (a 9)) 1) + 1)) 11 ((aDi a (a 9)) 8)) v) (cwV 0 hts gX2_endNight_X2_forgets rfl rfl rfl (by decide +kernel) ⟨Nat.le_of_ble_eq_true rfl, Nat.le_of_ble_eq_true rfl⟩) hP hD hK hN hS hA (va_recv hK hP (ci := 2) (q0 := 0) rfl rfl) rfl hl.1 rfl (Nat.le_of_ble_eq_true rfl) dX2_endNight_129 ⟨Nat.le_of_ble_eq_true rfl, Nat.le_of_ble_eq_true rfl⟩ [0, 2] [1] rfl rfl rfl (by intro i hi; simp only [List.mem_cons, List.not_mem_nil, or_false] at hi; rcases hi with rfl <;> rfl) rfl 3 rfl (by decide) (by decide) (fun H locs hP hD hS => ?_)
              refine lv_iload_n hx hb dX2_endNight_132 rfl (lv_at hl 0 rfl) ?_
              have hP9 : va_P D vwCl [cM hM hO hW hY 0 (aEn a), cA cZ hO 16384 (fun w => bI ((oDi a o (xDead a)) w)), cA cI hW 8 (iUp vM v 8)] H := by
                have e9_0 : (aEn a) = (aF (upd (upd (upd (upd (aDi a (a 9)) 7 (((aDi a (a 9)) 7) ||| 0)) 0 1) 1 (((aDi a (a 9)) 1) + 1)) 11 ((aDi a (a 9)) 8))) := by (first | rfl | (simp only [aEn, aD2, aD1, oDi, xDead, bI, c_1, c_4, c_5, c_9, c_10, eq_self, ↓reduceIte]; done) | (simp only [aEn, aD2, aD1, oDi, xDead, bI, c_1, c_4, c_5, c_9, c_10, eq_self, ↓reduceIte]; rfl) | (simp only [aEn, aD2, aD1, oDi, xDead, bI, eq_true c_1, c_4, c_5, eq_true c_9, c_10, eq_self, ↓reduceIte]; done) | (simp only [aEn, aD2, aD1, oDi, xDead, bI, eq_true c_1, c_4, c_5, eq_true c_9, c_10, eq_self, ↓reduceIte]; rfl) | (simp [aEn, aD2, aD1, oDi, xDead, bI, eq_true c_1, c_4, c_5, eq_true c_9, c_10]; done) | simp [aEn, aD2, aD1, oDi, xDead, bI, c_1, c_4, c_5, c_9, c_10])
                have e9_1 : (fun w => bI ((oDi a o (xDead a)) w)) = (fun w => bI ((oUp (nDi a o (a 9)) o 16384) w)) := by (first | rfl | (simp only [aEn, aD2, aD1, oDi, xDead, bI, c_1, c_4, c_5, c_9, c_10, eq_self, ↓reduceIte]; done) | (simp only [aEn, aD2, aD1, oDi, xDead, bI, c_1, c_4, c_5, c_9, c_10, eq_self, ↓reduceIte]; rfl) | (simp only [aEn, aD2, aD1, oDi, xDead, bI, eq_true c_1, c_4, c_5, eq_true c_9, c_10, eq_self, ↓reduceIte]; done) | (simp only [aEn, aD2, aD1, oDi, xDead, bI, eq_true c_1, c_4, c_5, eq_true c_9, c_10, eq_self, ↓reduceIte]; rfl) | (simp [aEn, aD2, aD1, oDi, xDead, bI, eq_true c_1, c_4, c_5, eq_true c_9, c_10]; done) | simp [aEn, aD2, aD1, oDi, xDead, bI, c_1, c_4, c_5, c_9, c_10])
                rw [e9_0]
                rw [e9_1]
                exact hP
              exact mi_iret hx hb hr hlocks hS (by (first | rfl | (simp only [aEn, aD2, aD1, oDi, xDead, bI, c_1, c_4, c_5, c_9, c_10, eq_self, ↓reduceIte]; done) | (simp only [aEn, aD2, aD1, oDi, xDead, bI, c_1, c_4, c_5, c_9, c_10, eq_self, ↓reduceIte]; rfl) | (simp only [aEn, aD2, aD1, oDi, xDead, bI, eq_true c_1, c_4, c_5, eq_true c_9, c_10, eq_self, ↓reduceIte]; done) | (simp only [aEn, aD2, aD1, oDi, xDead, bI, eq_true c_1, c_4, c_5, eq_true c_9, c_10, eq_self, ↓reduceIte]; rfl) | (simp [aEn, aD2, aD1, oDi, xDead, bI, eq_true c_1, c_4, c_5, eq_true c_9, c_10]; done) | simp [aEn, aD2, aD1, oDi, xDead, bI, c_1, c_4, c_5, c_9, c_10])) hP9 dX2_endNight_133
            · have c_10 : (xHas ((aDi a (a 9)) 6) ((aDi a (a 9)) 4)) = true := bI_1 c_10
              refine lv_aload_n hx hb dX2_endNight_83 rfl (lv_at hl 1 rfl) ?_
              refine va_get (D := D) (cl := vwCl) (ci := 2) (v := .int ((aDi a (a 9)) 10)) (C := RX2) (T := TX2) (N := 16) hx hb hts in_X2_endNight_X2 hown hK hP 0 rfl rfl 14 (by decide) (hts (.fieldLink RX2 91 "WitchTrialModel" "watched" "I") (List.mem_of_getElem? (i := 8) rfl)) (fun _ h9 => h9) rfl dX2_endNight_84 ?_
              refine lv_iconst (v := (-1)) hx hb dX2_endNight_87 (by decide) ?_
              refine lv_icmp_eq (tgt := 100) hx hb dX2_endNight_88 (by decide) (fun c_11 => ?_) (fun c_11 => ?_)
              · refine lv_iconst (v := 0) hx hb dX2_endNight_100 (by decide) ?_
                refine lv_ior hx hb dX2_endNight_101 ?_
                refine va_put (D := D) (cl := vwCl) (ci := 2) (v := .int (((aDi a (a 9)) 7) ||| 0)) (ty := .int) (C := RX2) (T := TX2) (N := 16) hx hb hts in_X2_endNight_X2 tyX2 tyX2_ok nmX2 hown hK hP hD hS 0 rfl rfl 9 (by decide) (hts (.fieldLink RX2 60 "WitchTrialModel" "looked" "I") (List.mem_of_getElem? (i := 5) rfl)) (fun _ h9 => h9) rfl (by decide +kernel) rfl rfl (Nat.le_of_ble_eq_true rfl) dX2_endNight_102 (fun H locs hP hD hS => ?_)
                have hP : va_P D vwCl [cM hM hO hW hY 0 (upd (aDi a (a 9)) 7 (((aDi a (a 9)) 7) ||| 0)), cA cZ hO 16384 (fun w => bI ((oUp (nDi a o (a 9)) o 16384) w)), cA cI hW 8 v] H := hP
                have hD : va_D A [cM hM hO hW hY 0 (upd (aDi a (a 9)) 7 (((aDi a (a 9)) 7) ||| 0)), cA cZ hO 16384 (fun w => bI ((oUp (nDi a o (a 9)) o 16384) w)), cA cI hW 8 v] := hD
                refine lv_aload_n hx hb dX2_endNight_105 rfl (lv_at hl 1 rfl) ?_
                refine lv_iconst (v := 1) hx hb dX2_endNight_106 (by decide) ?_
                refine va_put (D := D) (cl := vwCl) (ci := 2) (v := .int 1) (ty := .int) (C := RX2) (T := TX2) (N := 16) hx hb hts in_X2_endNight_X2 tyX2 tyX2_ok nmX2 hown hK hP hD hS 0 rfl rfl 1 (by decide) (hts (.fieldLink RX2 70 "WitchTrialModel" "phase" "I") (List.mem_of_getElem? (i := 1) rfl)) (fun _ h9 => h9) rfl (by decide +kernel) rfl rfl (Nat.le_of_ble_eq_true rfl) dX2_endNight_107 (fun H locs hP hD hS => ?_)
                have hP : va_P D vwCl [cM hM hO hW hY 0 (upd (upd (aDi a (a 9)) 7 (((aDi a (a 9)) 7) ||| 0)) 0 1), cA cZ hO 16384 (fun w => bI ((oUp (nDi a o (a 9)) o 16384) w)), cA cI hW 8 v] H := hP
                have hD : va_D A [cM hM hO hW hY 0 (upd (upd (aDi a (a 9)) 7 (((aDi a (a 9)) 7) ||| 0)) 0 1), cA cZ hO 16384 (fun w => bI ((oUp (nDi a o (a 9)) o 16384) w)), cA cI hW 8 v] := hD
                refine lv_aload_n hx hb dX2_endNight_110 rfl (lv_at hl 1 rfl) ?_
                refine lv_dup hx hb dX2_endNight_111 rfl ?_
                refine va_get (D := D) (cl := vwCl) (ci := 2) (v := .int ((aDi a (a 9)) 1)) (C := RX2) (T := TX2) (N := 16) hx hb hts in_X2_endNight_X2 hown hK hP 0 rfl rfl 8 (by decide) (hts (.fieldLink RX2 73 "WitchTrialModel" "day" "I") (List.mem_of_getElem? (i := 9) rfl)) (fun _ h9 => h9) rfl dX2_endNight_112 ?_
                refine lv_iconst (v := 1) hx hb dX2_endNight_115 (by decide) ?_
                refine lv_iadd hx hb dX2_endNight_116 ?_
                refine va_put (D := D) (cl := vwCl) (ci := 2) (v := .int (((aDi a (a 9)) 1) + 1)) (ty := .int) (C := RX2) (T := TX2) (N := 16) hx hb hts in_X2_endNight_X2 tyX2 tyX2_ok nmX2 hown hK hP hD hS 0 rfl rfl 8 (by decide) (hts (.fieldLink RX2 73 "WitchTrialModel" "day" "I") (List.mem_of_getElem? (i := 9) rfl)) (fun _ h9 => h9) rfl (by decide +kernel) rfl rfl (Nat.le_of_ble_eq_true rfl) dX2_endNight_117 (fun H locs hP hD hS => ?_)
                have hP : va_P D vwCl [cM hM hO hW hY 0 (upd (upd (upd (aDi a (a 9)) 7 (((aDi a (a 9)) 7) ||| 0)) 0 1) 1 (((aDi a (a 9)) 1) + 1)), cA cZ hO 16384 (fun w => bI ((oUp (nDi a o (a 9)) o 16384) w)), cA cI hW 8 v] H := hP
                have hD : va_D A [cM hM hO hW hY 0 (upd (upd (upd (aDi a (a 9)) 7 (((aDi a (a 9)) 7) ||| 0)) 0 1) 1 (((aDi a (a 9)) 1) + 1)), cA cZ hO 16384 (fun w => bI ((oUp (nDi a o (a 9)) o 16384) w)), cA cI hW 8 v] := hD
                refine lv_aload_n hx hb dX2_endNight_120 rfl (lv_at hl 1 rfl) ?_
                refine lv_aload_n hx hb dX2_endNight_121 rfl (lv_at hl 1 rfl) ?_
                refine va_get (D := D) (cl := vwCl) (ci := 2) (v := .int ((aDi a (a 9)) 8)) (C := RX2) (T := TX2) (N := 16) hx hb hts in_X2_endNight_X2 hown hK hP 0 rfl rfl 11 (by decide) (hts (.fieldLink RX2 85 "WitchTrialModel" "shielded" "I") (List.mem_of_getElem? (i := 4) rfl)) (fun _ h9 => h9) rfl dX2_endNight_122 ?_
                refine va_put (D := D) (cl := vwCl) (ci := 2) (v := .int ((aDi a (a 9)) 8)) (ty := .int) (C := RX2) (T := TX2) (N := 16) hx hb hts in_X2_endNight_X2 tyX2 tyX2_ok nmX2 hown hK hP hD hS 0 rfl rfl 12 (by decide) (hts (.fieldLink RX2 76 "WitchTrialModel" "shieldedBefore" "I") (List.mem_of_getElem? (i := 10) rfl)) (fun _ h9 => h9) rfl (by decide +kernel) rfl rfl (Nat.le_of_ble_eq_true rfl) dX2_endNight_125 (fun H locs hP hD hS => ?_)
                have hP : va_P D vwCl [cM hM hO hW hY 0 (upd (upd (upd (upd (aDi a (a 9)) 7 (((aDi a (a 9)) 7) ||| 0)) 0 1) 1 (((aDi a (a 9)) 1) + 1)) 11 ((aDi a (a 9)) 8)), cA cZ hO 16384 (fun w => bI ((oUp (nDi a o (a 9)) o 16384) w)), cA cI hW 8 v] H := hP
                have hD : va_D A [cM hM hO hW hY 0 (upd (upd (upd (upd (aDi a (a 9)) 7 (((aDi a (a 9)) 7) ||| 0)) 0 1) 1 (((aDi a (a 9)) 1) + 1)) 11 ((aDi a (a 9)) 8)), cA cZ hO 16384 (fun w => bI ((oUp (nDi a o (a 9)) o 16384) w)), cA cI hW 8 v] := hD
                refine lv_aload_n hx hb dX2_endNight_128 rfl (lv_at hl 1 rfl) ?_
                refine mv_V (b := hM) (As := []) (rest := []) (W2 := [cM hM hO hW hY 0 (aF (upd (upd (upd (upd (aDi a (a 9)) 7 (((aDi a (a 9)) 7) ||| 0)) 0 1) 1 (((aDi a (a 9)) 1) + 1)) 11 ((aDi a (a 9)) 8))), cA cZ hO 16384 (fun w => bI ((oUp (nDi a o (a 9)) o 16384) w)), cA cI hW 8 (iUp vM v 8)]) ⟨hx, hb, hml, hown, hts⟩ (c_X2_forgets l D cI cZ cJ _ hM hO hW hY 0 (upd (upd (upd (upd (aDi a (a 9)) 7 (((aDi a (a 9)) 7) ||| 0)) 0 1) 1 (((aDi a (a 9)) 1) + 1)) 11 ((aDi a (a 9)) 8)) v) (cwV 0 hts gX2_endNight_X2_forgets rfl rfl rfl (by decide +kernel) ⟨Nat.le_of_ble_eq_true rfl, Nat.le_of_ble_eq_true rfl⟩) hP hD hK hN hS hA (va_recv hK hP (ci := 2) (q0 := 0) rfl rfl) rfl hl.1 rfl (Nat.le_of_ble_eq_true rfl) dX2_endNight_129 ⟨Nat.le_of_ble_eq_true rfl, Nat.le_of_ble_eq_true rfl⟩ [0, 2] [1] rfl rfl rfl (by intro i hi; simp only [List.mem_cons, List.not_mem_nil, or_false] at hi; rcases hi with rfl <;> rfl) rfl 3 rfl (by decide) (by decide) (fun H locs hP hD hS => ?_)
                refine lv_iload_n hx hb dX2_endNight_132 rfl (lv_at hl 0 rfl) ?_
                have hP9 : va_P D vwCl [cM hM hO hW hY 0 (aEn a), cA cZ hO 16384 (fun w => bI ((oDi a o (xDead a)) w)), cA cI hW 8 (iUp vM v 8)] H := by
                  have e9_0 : (aEn a) = (aF (upd (upd (upd (upd (aDi a (a 9)) 7 (((aDi a (a 9)) 7) ||| 0)) 0 1) 1 (((aDi a (a 9)) 1) + 1)) 11 ((aDi a (a 9)) 8))) := by (first | rfl | (simp only [aEn, aD2, aD1, oDi, xDead, bI, c_1, c_4, c_5, c_9, c_10, c_11, eq_self, ↓reduceIte]; done) | (simp only [aEn, aD2, aD1, oDi, xDead, bI, c_1, c_4, c_5, c_9, c_10, c_11, eq_self, ↓reduceIte]; rfl) | (simp only [aEn, aD2, aD1, oDi, xDead, bI, eq_true c_1, c_4, c_5, eq_true c_9, c_10, eq_true c_11, eq_self, ↓reduceIte]; done) | (simp only [aEn, aD2, aD1, oDi, xDead, bI, eq_true c_1, c_4, c_5, eq_true c_9, c_10, eq_true c_11, eq_self, ↓reduceIte]; rfl) | (simp [aEn, aD2, aD1, oDi, xDead, bI, eq_true c_1, c_4, c_5, eq_true c_9, c_10, eq_true c_11]; done) | simp [aEn, aD2, aD1, oDi, xDead, bI, c_1, c_4, c_5, c_9, c_10, c_11])
                  have e9_1 : (fun w => bI ((oDi a o (xDead a)) w)) = (fun w => bI ((oUp (nDi a o (a 9)) o 16384) w)) := by (first | rfl | (simp only [aEn, aD2, aD1, oDi, xDead, bI, c_1, c_4, c_5, c_9, c_10, c_11, eq_self, ↓reduceIte]; done) | (simp only [aEn, aD2, aD1, oDi, xDead, bI, c_1, c_4, c_5, c_9, c_10, c_11, eq_self, ↓reduceIte]; rfl) | (simp only [aEn, aD2, aD1, oDi, xDead, bI, eq_true c_1, c_4, c_5, eq_true c_9, c_10, eq_true c_11, eq_self, ↓reduceIte]; done) | (simp only [aEn, aD2, aD1, oDi, xDead, bI, eq_true c_1, c_4, c_5, eq_true c_9, c_10, eq_true c_11, eq_self, ↓reduceIte]; rfl) | (simp [aEn, aD2, aD1, oDi, xDead, bI, eq_true c_1, c_4, c_5, eq_true c_9, c_10, eq_true c_11]; done) | simp [aEn, aD2, aD1, oDi, xDead, bI, c_1, c_4, c_5, c_9, c_10, c_11])
                  rw [e9_0]
                  rw [e9_1]
                  exact hP
                exact mi_iret hx hb hr hlocks hS (by (first | rfl | (simp only [aEn, aD2, aD1, oDi, xDead, bI, c_1, c_4, c_5, c_9, c_10, c_11, eq_self, ↓reduceIte]; done) | (simp only [aEn, aD2, aD1, oDi, xDead, bI, c_1, c_4, c_5, c_9, c_10, c_11, eq_self, ↓reduceIte]; rfl) | (simp only [aEn, aD2, aD1, oDi, xDead, bI, eq_true c_1, c_4, c_5, eq_true c_9, c_10, eq_true c_11, eq_self, ↓reduceIte]; done) | (simp only [aEn, aD2, aD1, oDi, xDead, bI, eq_true c_1, c_4, c_5, eq_true c_9, c_10, eq_true c_11, eq_self, ↓reduceIte]; rfl) | (simp [aEn, aD2, aD1, oDi, xDead, bI, eq_true c_1, c_4, c_5, eq_true c_9, c_10, eq_true c_11]; done) | simp [aEn, aD2, aD1, oDi, xDead, bI, c_1, c_4, c_5, c_9, c_10, c_11])) hP9 dX2_endNight_133
              · refine lv_iconst (v := 1) hx hb dX2_endNight_91 (by decide) ?_
                refine lv_aload_n hx hb dX2_endNight_92 rfl (lv_at hl 1 rfl) ?_
                refine va_get (D := D) (cl := vwCl) (ci := 2) (v := .int ((aDi a (a 9)) 10)) (C := RX2) (T := TX2) (N := 16) hx hb hts in_X2_endNight_X2 hown hK hP 0 rfl rfl 14 (by decide) (hts (.fieldLink RX2 91 "WitchTrialModel" "watched" "I") (List.mem_of_getElem? (i := 8) rfl)) (fun _ h9 => h9) rfl dX2_endNight_93 ?_
                refine lv_ishl hx hb dX2_endNight_96 ?_
                refine lv_goto (tgt := 101) hx hb dX2_endNight_97 (by decide) ?_
                refine lv_ior hx hb dX2_endNight_101 ?_
                refine va_put (D := D) (cl := vwCl) (ci := 2) (v := .int (((aDi a (a 9)) 7) ||| ((1 : Int32) <<< (((aDi a (a 9)) 10) &&& 31)))) (ty := .int) (C := RX2) (T := TX2) (N := 16) hx hb hts in_X2_endNight_X2 tyX2 tyX2_ok nmX2 hown hK hP hD hS 0 rfl rfl 9 (by decide) (hts (.fieldLink RX2 60 "WitchTrialModel" "looked" "I") (List.mem_of_getElem? (i := 5) rfl)) (fun _ h9 => h9) rfl (by decide +kernel) rfl rfl (Nat.le_of_ble_eq_true rfl) dX2_endNight_102 (fun H locs hP hD hS => ?_)
                have hP : va_P D vwCl [cM hM hO hW hY 0 (upd (aDi a (a 9)) 7 (((aDi a (a 9)) 7) ||| ((1 : Int32) <<< (((aDi a (a 9)) 10) &&& 31)))), cA cZ hO 16384 (fun w => bI ((oUp (nDi a o (a 9)) o 16384) w)), cA cI hW 8 v] H := hP
                have hD : va_D A [cM hM hO hW hY 0 (upd (aDi a (a 9)) 7 (((aDi a (a 9)) 7) ||| ((1 : Int32) <<< (((aDi a (a 9)) 10) &&& 31)))), cA cZ hO 16384 (fun w => bI ((oUp (nDi a o (a 9)) o 16384) w)), cA cI hW 8 v] := hD
                refine lv_aload_n hx hb dX2_endNight_105 rfl (lv_at hl 1 rfl) ?_
                refine lv_iconst (v := 1) hx hb dX2_endNight_106 (by decide) ?_
                refine va_put (D := D) (cl := vwCl) (ci := 2) (v := .int 1) (ty := .int) (C := RX2) (T := TX2) (N := 16) hx hb hts in_X2_endNight_X2 tyX2 tyX2_ok nmX2 hown hK hP hD hS 0 rfl rfl 1 (by decide) (hts (.fieldLink RX2 70 "WitchTrialModel" "phase" "I") (List.mem_of_getElem? (i := 1) rfl)) (fun _ h9 => h9) rfl (by decide +kernel) rfl rfl (Nat.le_of_ble_eq_true rfl) dX2_endNight_107 (fun H locs hP hD hS => ?_)
                have hP : va_P D vwCl [cM hM hO hW hY 0 (upd (upd (aDi a (a 9)) 7 (((aDi a (a 9)) 7) ||| ((1 : Int32) <<< (((aDi a (a 9)) 10) &&& 31)))) 0 1), cA cZ hO 16384 (fun w => bI ((oUp (nDi a o (a 9)) o 16384) w)), cA cI hW 8 v] H := hP
                have hD : va_D A [cM hM hO hW hY 0 (upd (upd (aDi a (a 9)) 7 (((aDi a (a 9)) 7) ||| ((1 : Int32) <<< (((aDi a (a 9)) 10) &&& 31)))) 0 1), cA cZ hO 16384 (fun w => bI ((oUp (nDi a o (a 9)) o 16384) w)), cA cI hW 8 v] := hD
                refine lv_aload_n hx hb dX2_endNight_110 rfl (lv_at hl 1 rfl) ?_
                refine lv_dup hx hb dX2_endNight_111 rfl ?_
                refine va_get (D := D) (cl := vwCl) (ci := 2) (v := .int ((aDi a (a 9)) 1)) (C := RX2) (T := TX2) (N := 16) hx hb hts in_X2_endNight_X2 hown hK hP 0 rfl rfl 8 (by decide) (hts (.fieldLink RX2 73 "WitchTrialModel" "day" "I") (List.mem_of_getElem? (i := 9) rfl)) (fun _ h9 => h9) rfl dX2_endNight_112 ?_
                refine lv_iconst (v := 1) hx hb dX2_endNight_115 (by decide) ?_
                refine lv_iadd hx hb dX2_endNight_116 ?_
                refine va_put (D := D) (cl := vwCl) (ci := 2) (v := .int (((aDi a (a 9)) 1) + 1)) (ty := .int) (C := RX2) (T := TX2) (N := 16) hx hb hts in_X2_endNight_X2 tyX2 tyX2_ok nmX2 hown hK hP hD hS 0 rfl rfl 8 (by decide) (hts (.fieldLink RX2 73 "WitchTrialModel" "day" "I") (List.mem_of_getElem? (i := 9) rfl)) (fun _ h9 => h9) rfl (by decide +kernel) rfl rfl (Nat.le_of_ble_eq_true rfl) dX2_endNight_117 (fun H locs hP hD hS => ?_)
                have hP : va_P D vwCl [cM hM hO hW hY 0 (upd (upd (upd (aDi a (a 9)) 7 (((aDi a (a 9)) 7) ||| ((1 : Int32) <<< (((aDi a (a 9)) 10) &&& 31)))) 0 1) 1 (((aDi a (a 9)) 1) + 1)), cA cZ hO 16384 (fun w => bI ((oUp (nDi a o (a 9)) o 16384) w)), cA cI hW 8 v] H := hP
                have hD : va_D A [cM hM hO hW hY 0 (upd (upd (upd (aDi a (a 9)) 7 (((aDi a (a 9)) 7) ||| ((1 : Int32) <<< (((aDi a (a 9)) 10) &&& 31)))) 0 1) 1 (((aDi a (a 9)) 1) + 1)), cA cZ hO 16384 (fun w => bI ((oUp (nDi a o (a 9)) o 16384) w)), cA cI hW 8 v] := hD
                refine lv_aload_n hx hb dX2_endNight_120 rfl (lv_at hl 1 rfl) ?_
                refine lv_aload_n hx hb dX2_endNight_121 rfl (lv_at hl 1 rfl) ?_
                refine va_get (D := D) (cl := vwCl) (ci := 2) (v := .int ((aDi a (a 9)) 8)) (C := RX2) (T := TX2) (N := 16) hx hb hts in_X2_endNight_X2 hown hK hP 0 rfl rfl 11 (by decide) (hts (.fieldLink RX2 85 "WitchTrialModel" "shielded" "I") (List.mem_of_getElem? (i := 4) rfl)) (fun _ h9 => h9) rfl dX2_endNight_122 ?_
                refine va_put (D := D) (cl := vwCl) (ci := 2) (v := .int ((aDi a (a 9)) 8)) (ty := .int) (C := RX2) (T := TX2) (N := 16) hx hb hts in_X2_endNight_X2 tyX2 tyX2_ok nmX2 hown hK hP hD hS 0 rfl rfl 12 (by decide) (hts (.fieldLink RX2 76 "WitchTrialModel" "shieldedBefore" "I") (List.mem_of_getElem? (i := 10) rfl)) (fun _ h9 => h9) rfl (by decide +kernel) rfl rfl (Nat.le_of_ble_eq_true rfl) dX2_endNight_125 (fun H locs hP hD hS => ?_)
                have hP : va_P D vwCl [cM hM hO hW hY 0 (upd (upd (upd (upd (aDi a (a 9)) 7 (((aDi a (a 9)) 7) ||| ((1 : Int32) <<< (((aDi a (a 9)) 10) &&& 31)))) 0 1) 1 (((aDi a (a 9)) 1) + 1)) 11 ((aDi a (a 9)) 8)), cA cZ hO 16384 (fun w => bI ((oUp (nDi a o (a 9)) o 16384) w)), cA cI hW 8 v] H := hP
                have hD : va_D A [cM hM hO hW hY 0 (upd (upd (upd (upd (aDi a (a 9)) 7 (((aDi a (a 9)) 7) ||| ((1 : Int32) <<< (((aDi a (a 9)) 10) &&& 31)))) 0 1) 1 (((aDi a (a 9)) 1) + 1)) 11 ((aDi a (a 9)) 8)), cA cZ hO 16384 (fun w => bI ((oUp (nDi a o (a 9)) o 16384) w)), cA cI hW 8 v] := hD
                refine lv_aload_n hx hb dX2_endNight_128 rfl (lv_at hl 1 rfl) ?_
                refine mv_V (b := hM) (As := []) (rest := []) (W2 := [cM hM hO hW hY 0 (aF (upd (upd (upd (upd (aDi a (a 9)) 7 (((aDi a (a 9)) 7) ||| ((1 : Int32) <<< (((aDi a (a 9)) 10) &&& 31)))) 0 1) 1 (((aDi a (a 9)) 1) + 1)) 11 ((aDi a (a 9)) 8))), cA cZ hO 16384 (fun w => bI ((oUp (nDi a o (a 9)) o 16384) w)), cA cI hW 8 (iUp vM v 8)]) ⟨hx, hb, hml, hown, hts⟩ (c_X2_forgets l D cI cZ cJ _ hM hO hW hY 0 (upd (upd (upd (upd (aDi a (a 9)) 7 (((aDi a (a 9)) 7) ||| ((1 : Int32) <<< (((aDi a (a 9)) 10) &&& 31)))) 0 1) 1 (((aDi a (a 9)) 1) + 1)) 11 ((aDi a (a 9)) 8)) v) (cwV 0 hts gX2_endNight_X2_forgets rfl rfl rfl (by decide +kernel) ⟨Nat.le_of_ble_eq_true rfl, Nat.le_of_ble_eq_true rfl⟩) hP hD hK hN hS hA (va_recv hK hP (ci := 2) (q0 := 0) rfl rfl) rfl hl.1 rfl (Nat.le_of_ble_eq_true rfl) dX2_endNight_129 ⟨Nat.le_of_ble_eq_true rfl, Nat.le_of_ble_eq_true rfl⟩ [0, 2] [1] rfl rfl rfl (by intro i hi; simp only [List.mem_cons, List.not_mem_nil, or_false] at hi; rcases hi with rfl <;> rfl) rfl 3 rfl (by decide) (by decide) (fun H locs hP hD hS => ?_)
                refine lv_iload_n hx hb dX2_endNight_132 rfl (lv_at hl 0 rfl) ?_
                have hP9 : va_P D vwCl [cM hM hO hW hY 0 (aEn a), cA cZ hO 16384 (fun w => bI ((oDi a o (xDead a)) w)), cA cI hW 8 (iUp vM v 8)] H := by
                  have e9_0 : (aEn a) = (aF (upd (upd (upd (upd (aDi a (a 9)) 7 (((aDi a (a 9)) 7) ||| ((1 : Int32) <<< (((aDi a (a 9)) 10) &&& 31)))) 0 1) 1 (((aDi a (a 9)) 1) + 1)) 11 ((aDi a (a 9)) 8))) := by (first | rfl | (simp only [aEn, aD2, aD1, oDi, xDead, bI, c_1, c_4, c_5, c_9, c_10, c_11, eq_self, ↓reduceIte]; done) | (simp only [aEn, aD2, aD1, oDi, xDead, bI, c_1, c_4, c_5, c_9, c_10, c_11, eq_self, ↓reduceIte]; rfl) | (simp only [aEn, aD2, aD1, oDi, xDead, bI, eq_true c_1, c_4, c_5, eq_true c_9, c_10, c_11, eq_self, ↓reduceIte]; done) | (simp only [aEn, aD2, aD1, oDi, xDead, bI, eq_true c_1, c_4, c_5, eq_true c_9, c_10, c_11, eq_self, ↓reduceIte]; rfl) | (simp [aEn, aD2, aD1, oDi, xDead, bI, eq_true c_1, c_4, c_5, eq_true c_9, c_10, c_11]; done) | simp [aEn, aD2, aD1, oDi, xDead, bI, c_1, c_4, c_5, c_9, c_10, c_11])
                  have e9_1 : (fun w => bI ((oDi a o (xDead a)) w)) = (fun w => bI ((oUp (nDi a o (a 9)) o 16384) w)) := by (first | rfl | (simp only [aEn, aD2, aD1, oDi, xDead, bI, c_1, c_4, c_5, c_9, c_10, c_11, eq_self, ↓reduceIte]; done) | (simp only [aEn, aD2, aD1, oDi, xDead, bI, c_1, c_4, c_5, c_9, c_10, c_11, eq_self, ↓reduceIte]; rfl) | (simp only [aEn, aD2, aD1, oDi, xDead, bI, eq_true c_1, c_4, c_5, eq_true c_9, c_10, c_11, eq_self, ↓reduceIte]; done) | (simp only [aEn, aD2, aD1, oDi, xDead, bI, eq_true c_1, c_4, c_5, eq_true c_9, c_10, c_11, eq_self, ↓reduceIte]; rfl) | (simp [aEn, aD2, aD1, oDi, xDead, bI, eq_true c_1, c_4, c_5, eq_true c_9, c_10, c_11]; done) | simp [aEn, aD2, aD1, oDi, xDead, bI, c_1, c_4, c_5, c_9, c_10, c_11])
                  rw [e9_0]
                  rw [e9_1]
                  exact hP
                exact mi_iret hx hb hr hlocks hS (by (first | rfl | (simp only [aEn, aD2, aD1, oDi, xDead, bI, c_1, c_4, c_5, c_9, c_10, c_11, eq_self, ↓reduceIte]; done) | (simp only [aEn, aD2, aD1, oDi, xDead, bI, c_1, c_4, c_5, c_9, c_10, c_11, eq_self, ↓reduceIte]; rfl) | (simp only [aEn, aD2, aD1, oDi, xDead, bI, eq_true c_1, c_4, c_5, eq_true c_9, c_10, c_11, eq_self, ↓reduceIte]; done) | (simp only [aEn, aD2, aD1, oDi, xDead, bI, eq_true c_1, c_4, c_5, eq_true c_9, c_10, c_11, eq_self, ↓reduceIte]; rfl) | (simp [aEn, aD2, aD1, oDi, xDead, bI, eq_true c_1, c_4, c_5, eq_true c_9, c_10, c_11]; done) | simp [aEn, aD2, aD1, oDi, xDead, bI, c_1, c_4, c_5, c_9, c_10, c_11])) hP9 dX2_endNight_133
      · refine lv_iconst (v := (-1)) hx hb dX2_endNight_37 (by decide) ?_
        refine lv_goto (tgt := 45) hx hb dX2_endNight_38 (by decide) ?_
        refine lv_istore_n (lv' := [(1, .int (-1)), (0, .ref hM)]) hx hb dX2_endNight_45 rfl hl (by decide) rfl (fun ls hl => ?_)
        refine lv_iload_n hx hb dX2_endNight_46 rfl (lv_at hl 0 rfl) ?_
        refine lv_iconst (v := (-1)) hx hb dX2_endNight_47 (by decide) ?_
        refine lv_icmp_eq (tgt := 56) hx hb dX2_endNight_48 (by decide) (fun c_12 => ?_) (fun c_12 => ?_)
        · refine lv_aload_n hx hb dX2_endNight_56 rfl (lv_at hl 1 rfl) ?_
          refine va_get (D := D) (cl := vwCl) (ci := 2) (v := .int (a 0)) (C := RX2) (T := TX2) (N := 16) hx hb hts in_X2_endNight_X2 hown hK hP 0 rfl rfl 1 (by decide) (hts (.fieldLink RX2 70 "WitchTrialModel" "phase" "I") (List.mem_of_getElem? (i := 1) rfl)) (fun _ h9 => h9) rfl dX2_endNight_57 ?_
          refine lv_iconst (v := 2) hx hb dX2_endNight_60 (by decide) ?_
          refine lv_icmp_ne (tgt := 120) hx hb dX2_endNight_61 (by decide) (fun c_13 => ?_) (fun c_13 => ?_)
          · exact absurd c_1 c_13
          · refine lv_aload_n hx hb dX2_endNight_64 rfl (lv_at hl 1 rfl) ?_
            refine lv_dup hx hb dX2_endNight_65 rfl ?_
            refine va_get (D := D) (cl := vwCl) (ci := 2) (v := .int (a 7)) (C := RX2) (T := TX2) (N := 16) hx hb hts in_X2_endNight_X2 hown hK hP 0 rfl rfl 9 (by decide) (hts (.fieldLink RX2 60 "WitchTrialModel" "looked" "I") (List.mem_of_getElem? (i := 5) rfl)) (fun _ h9 => h9) rfl dX2_endNight_66 ?_
            refine lv_aload_n hx hb dX2_endNight_69 rfl (lv_at hl 1 rfl) ?_
            refine va_get (D := D) (cl := vwCl) (ci := 2) (v := .int (a 6)) (C := RX2) (T := TX2) (N := 16) hx hb hts in_X2_endNight_X2 hown hK hP 0 rfl rfl 7 (by decide) (hts (.fieldLink RX2 67 "WitchTrialModel" "alive" "I") (List.mem_of_getElem? (i := 6) rfl)) (fun _ h9 => h9) rfl dX2_endNight_70 ?_
            refine lv_aload_n hx hb dX2_endNight_73 rfl (lv_at hl 1 rfl) ?_
            refine va_get (D := D) (cl := vwCl) (ci := 2) (v := .int (a 4)) (C := RX2) (T := TX2) (N := 16) hx hb hts in_X2_endNight_X2 hown hK hP 0 rfl rfl 4 (by decide) (hts (.fieldLink RX2 46 "WitchTrialModel" "seer" "I") (List.mem_of_getElem? (i := 7) rfl)) (fun _ h9 => h9) rfl dX2_endNight_74 ?_
            refine rd_S (As := [.int (a 6), .int (a 4)]) (rest := [.int (a 7), .ref hM]) ⟨hx, hb, hml, hown, hts⟩ (c_X2_has l D cI cZ cJ (a 6) (a 4)) (va_cwS 2 hts gX2_endNight_X2_has rfl rfl rfl (by decide +kernel) ⟨Nat.le_of_ble_eq_true rfl, Nat.le_of_ble_eq_true rfl⟩) (hP.sub (ws' := []) [] rfl) hK hN rfl hl.1 rfl (Nat.le_of_ble_eq_true rfl) dX2_endNight_77 ⟨Nat.le_of_ble_eq_true rfl, Nat.le_of_ble_eq_true rfl⟩ ?_
            refine lv_if_eq (tgt := 100) hx hb dX2_endNight_80 (by decide) (fun c_14 => ?_) (fun c_14 => ?_)
            · have c_14 : (xHas (a 6) (a 4)) = false := bI_0 c_14
              refine lv_iconst (v := 0) hx hb dX2_endNight_100 (by decide) ?_
              refine lv_ior hx hb dX2_endNight_101 ?_
              refine va_put (D := D) (cl := vwCl) (ci := 2) (v := .int ((a 7) ||| 0)) (ty := .int) (C := RX2) (T := TX2) (N := 16) hx hb hts in_X2_endNight_X2 tyX2 tyX2_ok nmX2 hown hK hP hD hS 0 rfl rfl 9 (by decide) (hts (.fieldLink RX2 60 "WitchTrialModel" "looked" "I") (List.mem_of_getElem? (i := 5) rfl)) (fun _ h9 => h9) rfl (by decide +kernel) rfl rfl (Nat.le_of_ble_eq_true rfl) dX2_endNight_102 (fun H locs hP hD hS => ?_)
              have hP : va_P D vwCl [cM hM hO hW hY 0 (upd a 7 ((a 7) ||| 0)), cA cZ hO 16384 (fun w => bI (o w)), cA cI hW 8 v] H := hP
              have hD : va_D A [cM hM hO hW hY 0 (upd a 7 ((a 7) ||| 0)), cA cZ hO 16384 (fun w => bI (o w)), cA cI hW 8 v] := hD
              refine lv_aload_n hx hb dX2_endNight_105 rfl (lv_at hl 1 rfl) ?_
              refine lv_iconst (v := 1) hx hb dX2_endNight_106 (by decide) ?_
              refine va_put (D := D) (cl := vwCl) (ci := 2) (v := .int 1) (ty := .int) (C := RX2) (T := TX2) (N := 16) hx hb hts in_X2_endNight_X2 tyX2 tyX2_ok nmX2 hown hK hP hD hS 0 rfl rfl 1 (by decide) (hts (.fieldLink RX2 70 "WitchTrialModel" "phase" "I") (List.mem_of_getElem? (i := 1) rfl)) (fun _ h9 => h9) rfl (by decide +kernel) rfl rfl (Nat.le_of_ble_eq_true rfl) dX2_endNight_107 (fun H locs hP hD hS => ?_)
              have hP : va_P D vwCl [cM hM hO hW hY 0 (upd (upd a 7 ((a 7) ||| 0)) 0 1), cA cZ hO 16384 (fun w => bI (o w)), cA cI hW 8 v] H := hP
              have hD : va_D A [cM hM hO hW hY 0 (upd (upd a 7 ((a 7) ||| 0)) 0 1), cA cZ hO 16384 (fun w => bI (o w)), cA cI hW 8 v] := hD
              refine lv_aload_n hx hb dX2_endNight_110 rfl (lv_at hl 1 rfl) ?_
              refine lv_dup hx hb dX2_endNight_111 rfl ?_
              refine va_get (D := D) (cl := vwCl) (ci := 2) (v := .int (a 1)) (C := RX2) (T := TX2) (N := 16) hx hb hts in_X2_endNight_X2 hown hK hP 0 rfl rfl 8 (by decide) (hts (.fieldLink RX2 73 "WitchTrialModel" "day" "I") (List.mem_of_getElem? (i := 9) rfl)) (fun _ h9 => h9) rfl dX2_endNight_112 ?_
              refine lv_iconst (v := 1) hx hb dX2_endNight_115 (by decide) ?_
              refine lv_iadd hx hb dX2_endNight_116 ?_
              refine va_put (D := D) (cl := vwCl) (ci := 2) (v := .int ((a 1) + 1)) (ty := .int) (C := RX2) (T := TX2) (N := 16) hx hb hts in_X2_endNight_X2 tyX2 tyX2_ok nmX2 hown hK hP hD hS 0 rfl rfl 8 (by decide) (hts (.fieldLink RX2 73 "WitchTrialModel" "day" "I") (List.mem_of_getElem? (i := 9) rfl)) (fun _ h9 => h9) rfl (by decide +kernel) rfl rfl (Nat.le_of_ble_eq_true rfl) dX2_endNight_117 (fun H locs hP hD hS => ?_)
              have hP : va_P D vwCl [cM hM hO hW hY 0 (upd (upd (upd a 7 ((a 7) ||| 0)) 0 1) 1 ((a 1) + 1)), cA cZ hO 16384 (fun w => bI (o w)), cA cI hW 8 v] H := hP
              have hD : va_D A [cM hM hO hW hY 0 (upd (upd (upd a 7 ((a 7) ||| 0)) 0 1) 1 ((a 1) + 1)), cA cZ hO 16384 (fun w => bI (o w)), cA cI hW 8 v] := hD
              refine lv_aload_n hx hb dX2_endNight_120 rfl (lv_at hl 1 rfl) ?_
              refine lv_aload_n hx hb dX2_endNight_121 rfl (lv_at hl 1 rfl) ?_
              refine va_get (D := D) (cl := vwCl) (ci := 2) (v := .int (a 8)) (C := RX2) (T := TX2) (N := 16) hx hb hts in_X2_endNight_X2 hown hK hP 0 rfl rfl 11 (by decide) (hts (.fieldLink RX2 85 "WitchTrialModel" "shielded" "I") (List.mem_of_getElem? (i := 4) rfl)) (fun _ h9 => h9) rfl dX2_endNight_122 ?_
              refine va_put (D := D) (cl := vwCl) (ci := 2) (v := .int (a 8)) (ty := .int) (C := RX2) (T := TX2) (N := 16) hx hb hts in_X2_endNight_X2 tyX2 tyX2_ok nmX2 hown hK hP hD hS 0 rfl rfl 12 (by decide) (hts (.fieldLink RX2 76 "WitchTrialModel" "shieldedBefore" "I") (List.mem_of_getElem? (i := 10) rfl)) (fun _ h9 => h9) rfl (by decide +kernel) rfl rfl (Nat.le_of_ble_eq_true rfl) dX2_endNight_125 (fun H locs hP hD hS => ?_)
              have hP : va_P D vwCl [cM hM hO hW hY 0 (upd (upd (upd (upd a 7 ((a 7) ||| 0)) 0 1) 1 ((a 1) + 1)) 11 (a 8)), cA cZ hO 16384 (fun w => bI (o w)), cA cI hW 8 v] H := hP
              have hD : va_D A [cM hM hO hW hY 0 (upd (upd (upd (upd a 7 ((a 7) ||| 0)) 0 1) 1 ((a 1) + 1)) 11 (a 8)), cA cZ hO 16384 (fun w => bI (o w)), cA cI hW 8 v] := hD
              refine lv_aload_n hx hb dX2_endNight_128 rfl (lv_at hl 1 rfl) ?_
              refine mv_V (b := hM) (As := []) (rest := []) (W2 := [cM hM hO hW hY 0 (aF (upd (upd (upd (upd a 7 ((a 7) ||| 0)) 0 1) 1 ((a 1) + 1)) 11 (a 8))), cA cZ hO 16384 (fun w => bI (o w)), cA cI hW 8 (iUp vM v 8)]) ⟨hx, hb, hml, hown, hts⟩ (c_X2_forgets l D cI cZ cJ _ hM hO hW hY 0 (upd (upd (upd (upd a 7 ((a 7) ||| 0)) 0 1) 1 ((a 1) + 1)) 11 (a 8)) v) (cwV 0 hts gX2_endNight_X2_forgets rfl rfl rfl (by decide +kernel) ⟨Nat.le_of_ble_eq_true rfl, Nat.le_of_ble_eq_true rfl⟩) hP hD hK hN hS hA (va_recv hK hP (ci := 2) (q0 := 0) rfl rfl) rfl hl.1 rfl (Nat.le_of_ble_eq_true rfl) dX2_endNight_129 ⟨Nat.le_of_ble_eq_true rfl, Nat.le_of_ble_eq_true rfl⟩ [0, 2] [1] rfl rfl rfl (by intro i hi; simp only [List.mem_cons, List.not_mem_nil, or_false] at hi; rcases hi with rfl <;> rfl) rfl 3 rfl (by decide) (by decide) (fun H locs hP hD hS => ?_)
              refine lv_iload_n hx hb dX2_endNight_132 rfl (lv_at hl 0 rfl) ?_
              have hP9 : va_P D vwCl [cM hM hO hW hY 0 (aEn a), cA cZ hO 16384 (fun w => bI ((oDi a o (xDead a)) w)), cA cI hW 8 (iUp vM v 8)] H := by
                have e9_0 : (aEn a) = (aF (upd (upd (upd (upd a 7 ((a 7) ||| 0)) 0 1) 1 ((a 1) + 1)) 11 (a 8))) := by (first | rfl | (simp only [aEn, aD2, aD1, oDi, xDead, bI, c_1, c_4, c_14, eq_self, ↓reduceIte]; done) | (simp only [aEn, aD2, aD1, oDi, xDead, bI, c_1, c_4, c_14, eq_self, ↓reduceIte]; rfl) | (simp only [aEn, aD2, aD1, oDi, xDead, bI, eq_true c_1, eq_true c_4, c_14, eq_self, ↓reduceIte]; done) | (simp only [aEn, aD2, aD1, oDi, xDead, bI, eq_true c_1, eq_true c_4, c_14, eq_self, ↓reduceIte]; rfl) | (simp [aEn, aD2, aD1, oDi, xDead, bI, eq_true c_1, eq_true c_4, c_14]; done) | simp [aEn, aD2, aD1, oDi, xDead, bI, c_1, c_4, c_14])
                have e9_1 : (fun w => bI ((oDi a o (xDead a)) w)) = (fun w => bI (o w)) := by (first | rfl | (simp only [aEn, aD2, aD1, oDi, xDead, bI, c_1, c_4, c_14, eq_self, ↓reduceIte]; done) | (simp only [aEn, aD2, aD1, oDi, xDead, bI, c_1, c_4, c_14, eq_self, ↓reduceIte]; rfl) | (simp only [aEn, aD2, aD1, oDi, xDead, bI, eq_true c_1, eq_true c_4, c_14, eq_self, ↓reduceIte]; done) | (simp only [aEn, aD2, aD1, oDi, xDead, bI, eq_true c_1, eq_true c_4, c_14, eq_self, ↓reduceIte]; rfl) | (simp [aEn, aD2, aD1, oDi, xDead, bI, eq_true c_1, eq_true c_4, c_14]; done) | simp [aEn, aD2, aD1, oDi, xDead, bI, c_1, c_4, c_14])
                rw [e9_0]
                rw [e9_1]
                exact hP
              exact mi_iret hx hb hr hlocks hS (by (first | rfl | (simp only [aEn, aD2, aD1, oDi, xDead, bI, c_1, c_4, c_14, eq_self, ↓reduceIte]; done) | (simp only [aEn, aD2, aD1, oDi, xDead, bI, c_1, c_4, c_14, eq_self, ↓reduceIte]; rfl) | (simp only [aEn, aD2, aD1, oDi, xDead, bI, eq_true c_1, eq_true c_4, c_14, eq_self, ↓reduceIte]; done) | (simp only [aEn, aD2, aD1, oDi, xDead, bI, eq_true c_1, eq_true c_4, c_14, eq_self, ↓reduceIte]; rfl) | (simp [aEn, aD2, aD1, oDi, xDead, bI, eq_true c_1, eq_true c_4, c_14]; done) | simp [aEn, aD2, aD1, oDi, xDead, bI, c_1, c_4, c_14])) hP9 dX2_endNight_133
            · have c_14 : (xHas (a 6) (a 4)) = true := bI_1 c_14
              refine lv_aload_n hx hb dX2_endNight_83 rfl (lv_at hl 1 rfl) ?_
              refine va_get (D := D) (cl := vwCl) (ci := 2) (v := .int (a 10)) (C := RX2) (T := TX2) (N := 16) hx hb hts in_X2_endNight_X2 hown hK hP 0 rfl rfl 14 (by decide) (hts (.fieldLink RX2 91 "WitchTrialModel" "watched" "I") (List.mem_of_getElem? (i := 8) rfl)) (fun _ h9 => h9) rfl dX2_endNight_84 ?_
              refine lv_iconst (v := (-1)) hx hb dX2_endNight_87 (by decide) ?_
              refine lv_icmp_eq (tgt := 100) hx hb dX2_endNight_88 (by decide) (fun c_15 => ?_) (fun c_15 => ?_)
              · refine lv_iconst (v := 0) hx hb dX2_endNight_100 (by decide) ?_
                refine lv_ior hx hb dX2_endNight_101 ?_
                refine va_put (D := D) (cl := vwCl) (ci := 2) (v := .int ((a 7) ||| 0)) (ty := .int) (C := RX2) (T := TX2) (N := 16) hx hb hts in_X2_endNight_X2 tyX2 tyX2_ok nmX2 hown hK hP hD hS 0 rfl rfl 9 (by decide) (hts (.fieldLink RX2 60 "WitchTrialModel" "looked" "I") (List.mem_of_getElem? (i := 5) rfl)) (fun _ h9 => h9) rfl (by decide +kernel) rfl rfl (Nat.le_of_ble_eq_true rfl) dX2_endNight_102 (fun H locs hP hD hS => ?_)
                have hP : va_P D vwCl [cM hM hO hW hY 0 (upd a 7 ((a 7) ||| 0)), cA cZ hO 16384 (fun w => bI (o w)), cA cI hW 8 v] H := hP
                have hD : va_D A [cM hM hO hW hY 0 (upd a 7 ((a 7) ||| 0)), cA cZ hO 16384 (fun w => bI (o w)), cA cI hW 8 v] := hD
                refine lv_aload_n hx hb dX2_endNight_105 rfl (lv_at hl 1 rfl) ?_
                refine lv_iconst (v := 1) hx hb dX2_endNight_106 (by decide) ?_
                refine va_put (D := D) (cl := vwCl) (ci := 2) (v := .int 1) (ty := .int) (C := RX2) (T := TX2) (N := 16) hx hb hts in_X2_endNight_X2 tyX2 tyX2_ok nmX2 hown hK hP hD hS 0 rfl rfl 1 (by decide) (hts (.fieldLink RX2 70 "WitchTrialModel" "phase" "I") (List.mem_of_getElem? (i := 1) rfl)) (fun _ h9 => h9) rfl (by decide +kernel) rfl rfl (Nat.le_of_ble_eq_true rfl) dX2_endNight_107 (fun H locs hP hD hS => ?_)
                have hP : va_P D vwCl [cM hM hO hW hY 0 (upd (upd a 7 ((a 7) ||| 0)) 0 1), cA cZ hO 16384 (fun w => bI (o w)), cA cI hW 8 v] H := hP
                have hD : va_D A [cM hM hO hW hY 0 (upd (upd a 7 ((a 7) ||| 0)) 0 1), cA cZ hO 16384 (fun w => bI (o w)), cA cI hW 8 v] := hD
                refine lv_aload_n hx hb dX2_endNight_110 rfl (lv_at hl 1 rfl) ?_
                refine lv_dup hx hb dX2_endNight_111 rfl ?_
                refine va_get (D := D) (cl := vwCl) (ci := 2) (v := .int (a 1)) (C := RX2) (T := TX2) (N := 16) hx hb hts in_X2_endNight_X2 hown hK hP 0 rfl rfl 8 (by decide) (hts (.fieldLink RX2 73 "WitchTrialModel" "day" "I") (List.mem_of_getElem? (i := 9) rfl)) (fun _ h9 => h9) rfl dX2_endNight_112 ?_
                refine lv_iconst (v := 1) hx hb dX2_endNight_115 (by decide) ?_
                refine lv_iadd hx hb dX2_endNight_116 ?_
                refine va_put (D := D) (cl := vwCl) (ci := 2) (v := .int ((a 1) + 1)) (ty := .int) (C := RX2) (T := TX2) (N := 16) hx hb hts in_X2_endNight_X2 tyX2 tyX2_ok nmX2 hown hK hP hD hS 0 rfl rfl 8 (by decide) (hts (.fieldLink RX2 73 "WitchTrialModel" "day" "I") (List.mem_of_getElem? (i := 9) rfl)) (fun _ h9 => h9) rfl (by decide +kernel) rfl rfl (Nat.le_of_ble_eq_true rfl) dX2_endNight_117 (fun H locs hP hD hS => ?_)
                have hP : va_P D vwCl [cM hM hO hW hY 0 (upd (upd (upd a 7 ((a 7) ||| 0)) 0 1) 1 ((a 1) + 1)), cA cZ hO 16384 (fun w => bI (o w)), cA cI hW 8 v] H := hP
                have hD : va_D A [cM hM hO hW hY 0 (upd (upd (upd a 7 ((a 7) ||| 0)) 0 1) 1 ((a 1) + 1)), cA cZ hO 16384 (fun w => bI (o w)), cA cI hW 8 v] := hD
                refine lv_aload_n hx hb dX2_endNight_120 rfl (lv_at hl 1 rfl) ?_
                refine lv_aload_n hx hb dX2_endNight_121 rfl (lv_at hl 1 rfl) ?_
                refine va_get (D := D) (cl := vwCl) (ci := 2) (v := .int (a 8)) (C := RX2) (T := TX2) (N := 16) hx hb hts in_X2_endNight_X2 hown hK hP 0 rfl rfl 11 (by decide) (hts (.fieldLink RX2 85 "WitchTrialModel" "shielded" "I") (List.mem_of_getElem? (i := 4) rfl)) (fun _ h9 => h9) rfl dX2_endNight_122 ?_
                refine va_put (D := D) (cl := vwCl) (ci := 2) (v := .int (a 8)) (ty := .int) (C := RX2) (T := TX2) (N := 16) hx hb hts in_X2_endNight_X2 tyX2 tyX2_ok nmX2 hown hK hP hD hS 0 rfl rfl 12 (by decide) (hts (.fieldLink RX2 76 "WitchTrialModel" "shieldedBefore" "I") (List.mem_of_getElem? (i := 10) rfl)) (fun _ h9 => h9) rfl (by decide +kernel) rfl rfl (Nat.le_of_ble_eq_true rfl) dX2_endNight_125 (fun H locs hP hD hS => ?_)
                have hP : va_P D vwCl [cM hM hO hW hY 0 (upd (upd (upd (upd a 7 ((a 7) ||| 0)) 0 1) 1 ((a 1) + 1)) 11 (a 8)), cA cZ hO 16384 (fun w => bI (o w)), cA cI hW 8 v] H := hP
                have hD : va_D A [cM hM hO hW hY 0 (upd (upd (upd (upd a 7 ((a 7) ||| 0)) 0 1) 1 ((a 1) + 1)) 11 (a 8)), cA cZ hO 16384 (fun w => bI (o w)), cA cI hW 8 v] := hD
                refine lv_aload_n hx hb dX2_endNight_128 rfl (lv_at hl 1 rfl) ?_
                refine mv_V (b := hM) (As := []) (rest := []) (W2 := [cM hM hO hW hY 0 (aF (upd (upd (upd (upd a 7 ((a 7) ||| 0)) 0 1) 1 ((a 1) + 1)) 11 (a 8))), cA cZ hO 16384 (fun w => bI (o w)), cA cI hW 8 (iUp vM v 8)]) ⟨hx, hb, hml, hown, hts⟩ (c_X2_forgets l D cI cZ cJ _ hM hO hW hY 0 (upd (upd (upd (upd a 7 ((a 7) ||| 0)) 0 1) 1 ((a 1) + 1)) 11 (a 8)) v) (cwV 0 hts gX2_endNight_X2_forgets rfl rfl rfl (by decide +kernel) ⟨Nat.le_of_ble_eq_true rfl, Nat.le_of_ble_eq_true rfl⟩) hP hD hK hN hS hA (va_recv hK hP (ci := 2) (q0 := 0) rfl rfl) rfl hl.1 rfl (Nat.le_of_ble_eq_true rfl) dX2_endNight_129 ⟨Nat.le_of_ble_eq_true rfl, Nat.le_of_ble_eq_true rfl⟩ [0, 2] [1] rfl rfl rfl (by intro i hi; simp only [List.mem_cons, List.not_mem_nil, or_false] at hi; rcases hi with rfl <;> rfl) rfl 3 rfl (by decide) (by decide) (fun H locs hP hD hS => ?_)
                refine lv_iload_n hx hb dX2_endNight_132 rfl (lv_at hl 0 rfl) ?_
                have hP9 : va_P D vwCl [cM hM hO hW hY 0 (aEn a), cA cZ hO 16384 (fun w => bI ((oDi a o (xDead a)) w)), cA cI hW 8 (iUp vM v 8)] H := by
                  have e9_0 : (aEn a) = (aF (upd (upd (upd (upd a 7 ((a 7) ||| 0)) 0 1) 1 ((a 1) + 1)) 11 (a 8))) := by (first | rfl | (simp only [aEn, aD2, aD1, oDi, xDead, bI, c_1, c_4, c_14, c_15, eq_self, ↓reduceIte]; done) | (simp only [aEn, aD2, aD1, oDi, xDead, bI, c_1, c_4, c_14, c_15, eq_self, ↓reduceIte]; rfl) | (simp only [aEn, aD2, aD1, oDi, xDead, bI, eq_true c_1, eq_true c_4, c_14, eq_true c_15, eq_self, ↓reduceIte]; done) | (simp only [aEn, aD2, aD1, oDi, xDead, bI, eq_true c_1, eq_true c_4, c_14, eq_true c_15, eq_self, ↓reduceIte]; rfl) | (simp [aEn, aD2, aD1, oDi, xDead, bI, eq_true c_1, eq_true c_4, c_14, eq_true c_15]; done) | simp [aEn, aD2, aD1, oDi, xDead, bI, c_1, c_4, c_14, c_15])
                  have e9_1 : (fun w => bI ((oDi a o (xDead a)) w)) = (fun w => bI (o w)) := by (first | rfl | (simp only [aEn, aD2, aD1, oDi, xDead, bI, c_1, c_4, c_14, c_15, eq_self, ↓reduceIte]; done) | (simp only [aEn, aD2, aD1, oDi, xDead, bI, c_1, c_4, c_14, c_15, eq_self, ↓reduceIte]; rfl) | (simp only [aEn, aD2, aD1, oDi, xDead, bI, eq_true c_1, eq_true c_4, c_14, eq_true c_15, eq_self, ↓reduceIte]; done) | (simp only [aEn, aD2, aD1, oDi, xDead, bI, eq_true c_1, eq_true c_4, c_14, eq_true c_15, eq_self, ↓reduceIte]; rfl) | (simp [aEn, aD2, aD1, oDi, xDead, bI, eq_true c_1, eq_true c_4, c_14, eq_true c_15]; done) | simp [aEn, aD2, aD1, oDi, xDead, bI, c_1, c_4, c_14, c_15])
                  rw [e9_0]
                  rw [e9_1]
                  exact hP
                exact mi_iret hx hb hr hlocks hS (by (first | rfl | (simp only [aEn, aD2, aD1, oDi, xDead, bI, c_1, c_4, c_14, c_15, eq_self, ↓reduceIte]; done) | (simp only [aEn, aD2, aD1, oDi, xDead, bI, c_1, c_4, c_14, c_15, eq_self, ↓reduceIte]; rfl) | (simp only [aEn, aD2, aD1, oDi, xDead, bI, eq_true c_1, eq_true c_4, c_14, eq_true c_15, eq_self, ↓reduceIte]; done) | (simp only [aEn, aD2, aD1, oDi, xDead, bI, eq_true c_1, eq_true c_4, c_14, eq_true c_15, eq_self, ↓reduceIte]; rfl) | (simp [aEn, aD2, aD1, oDi, xDead, bI, eq_true c_1, eq_true c_4, c_14, eq_true c_15]; done) | simp [aEn, aD2, aD1, oDi, xDead, bI, c_1, c_4, c_14, c_15])) hP9 dX2_endNight_133
              · refine lv_iconst (v := 1) hx hb dX2_endNight_91 (by decide) ?_
                refine lv_aload_n hx hb dX2_endNight_92 rfl (lv_at hl 1 rfl) ?_
                refine va_get (D := D) (cl := vwCl) (ci := 2) (v := .int (a 10)) (C := RX2) (T := TX2) (N := 16) hx hb hts in_X2_endNight_X2 hown hK hP 0 rfl rfl 14 (by decide) (hts (.fieldLink RX2 91 "WitchTrialModel" "watched" "I") (List.mem_of_getElem? (i := 8) rfl)) (fun _ h9 => h9) rfl dX2_endNight_93 ?_
                refine lv_ishl hx hb dX2_endNight_96 ?_
                refine lv_goto (tgt := 101) hx hb dX2_endNight_97 (by decide) ?_
                refine lv_ior hx hb dX2_endNight_101 ?_
                refine va_put (D := D) (cl := vwCl) (ci := 2) (v := .int ((a 7) ||| ((1 : Int32) <<< ((a 10) &&& 31)))) (ty := .int) (C := RX2) (T := TX2) (N := 16) hx hb hts in_X2_endNight_X2 tyX2 tyX2_ok nmX2 hown hK hP hD hS 0 rfl rfl 9 (by decide) (hts (.fieldLink RX2 60 "WitchTrialModel" "looked" "I") (List.mem_of_getElem? (i := 5) rfl)) (fun _ h9 => h9) rfl (by decide +kernel) rfl rfl (Nat.le_of_ble_eq_true rfl) dX2_endNight_102 (fun H locs hP hD hS => ?_)
                have hP : va_P D vwCl [cM hM hO hW hY 0 (upd a 7 ((a 7) ||| ((1 : Int32) <<< ((a 10) &&& 31)))), cA cZ hO 16384 (fun w => bI (o w)), cA cI hW 8 v] H := hP
                have hD : va_D A [cM hM hO hW hY 0 (upd a 7 ((a 7) ||| ((1 : Int32) <<< ((a 10) &&& 31)))), cA cZ hO 16384 (fun w => bI (o w)), cA cI hW 8 v] := hD
                refine lv_aload_n hx hb dX2_endNight_105 rfl (lv_at hl 1 rfl) ?_
                refine lv_iconst (v := 1) hx hb dX2_endNight_106 (by decide) ?_
                refine va_put (D := D) (cl := vwCl) (ci := 2) (v := .int 1) (ty := .int) (C := RX2) (T := TX2) (N := 16) hx hb hts in_X2_endNight_X2 tyX2 tyX2_ok nmX2 hown hK hP hD hS 0 rfl rfl 1 (by decide) (hts (.fieldLink RX2 70 "WitchTrialModel" "phase" "I") (List.mem_of_getElem? (i := 1) rfl)) (fun _ h9 => h9) rfl (by decide +kernel) rfl rfl (Nat.le_of_ble_eq_true rfl) dX2_endNight_107 (fun H locs hP hD hS => ?_)
                have hP : va_P D vwCl [cM hM hO hW hY 0 (upd (upd a 7 ((a 7) ||| ((1 : Int32) <<< ((a 10) &&& 31)))) 0 1), cA cZ hO 16384 (fun w => bI (o w)), cA cI hW 8 v] H := hP
                have hD : va_D A [cM hM hO hW hY 0 (upd (upd a 7 ((a 7) ||| ((1 : Int32) <<< ((a 10) &&& 31)))) 0 1), cA cZ hO 16384 (fun w => bI (o w)), cA cI hW 8 v] := hD
                refine lv_aload_n hx hb dX2_endNight_110 rfl (lv_at hl 1 rfl) ?_
                refine lv_dup hx hb dX2_endNight_111 rfl ?_
                refine va_get (D := D) (cl := vwCl) (ci := 2) (v := .int (a 1)) (C := RX2) (T := TX2) (N := 16) hx hb hts in_X2_endNight_X2 hown hK hP 0 rfl rfl 8 (by decide) (hts (.fieldLink RX2 73 "WitchTrialModel" "day" "I") (List.mem_of_getElem? (i := 9) rfl)) (fun _ h9 => h9) rfl dX2_endNight_112 ?_
                refine lv_iconst (v := 1) hx hb dX2_endNight_115 (by decide) ?_
                refine lv_iadd hx hb dX2_endNight_116 ?_
                refine va_put (D := D) (cl := vwCl) (ci := 2) (v := .int ((a 1) + 1)) (ty := .int) (C := RX2) (T := TX2) (N := 16) hx hb hts in_X2_endNight_X2 tyX2 tyX2_ok nmX2 hown hK hP hD hS 0 rfl rfl 8 (by decide) (hts (.fieldLink RX2 73 "WitchTrialModel" "day" "I") (List.mem_of_getElem? (i := 9) rfl)) (fun _ h9 => h9) rfl (by decide +kernel) rfl rfl (Nat.le_of_ble_eq_true rfl) dX2_endNight_117 (fun H locs hP hD hS => ?_)
                have hP : va_P D vwCl [cM hM hO hW hY 0 (upd (upd (upd a 7 ((a 7) ||| ((1 : Int32) <<< ((a 10) &&& 31)))) 0 1) 1 ((a 1) + 1)), cA cZ hO 16384 (fun w => bI (o w)), cA cI hW 8 v] H := hP
                have hD : va_D A [cM hM hO hW hY 0 (upd (upd (upd a 7 ((a 7) ||| ((1 : Int32) <<< ((a 10) &&& 31)))) 0 1) 1 ((a 1) + 1)), cA cZ hO 16384 (fun w => bI (o w)), cA cI hW 8 v] := hD
                refine lv_aload_n hx hb dX2_endNight_120 rfl (lv_at hl 1 rfl) ?_
                refine lv_aload_n hx hb dX2_endNight_121 rfl (lv_at hl 1 rfl) ?_
                refine va_get (D := D) (cl := vwCl) (ci := 2) (v := .int (a 8)) (C := RX2) (T := TX2) (N := 16) hx hb hts in_X2_endNight_X2 hown hK hP 0 rfl rfl 11 (by decide) (hts (.fieldLink RX2 85 "WitchTrialModel" "shielded" "I") (List.mem_of_getElem? (i := 4) rfl)) (fun _ h9 => h9) rfl dX2_endNight_122 ?_
                refine va_put (D := D) (cl := vwCl) (ci := 2) (v := .int (a 8)) (ty := .int) (C := RX2) (T := TX2) (N := 16) hx hb hts in_X2_endNight_X2 tyX2 tyX2_ok nmX2 hown hK hP hD hS 0 rfl rfl 12 (by decide) (hts (.fieldLink RX2 76 "WitchTrialModel" "shieldedBefore" "I") (List.mem_of_getElem? (i := 10) rfl)) (fun _ h9 => h9) rfl (by decide +kernel) rfl rfl (Nat.le_of_ble_eq_true rfl) dX2_endNight_125 (fun H locs hP hD hS => ?_)
                have hP : va_P D vwCl [cM hM hO hW hY 0 (upd (upd (upd (upd a 7 ((a 7) ||| ((1 : Int32) <<< ((a 10) &&& 31)))) 0 1) 1 ((a 1) + 1)) 11 (a 8)), cA cZ hO 16384 (fun w => bI (o w)), cA cI hW 8 v] H := hP
                have hD : va_D A [cM hM hO hW hY 0 (upd (upd (upd (upd a 7 ((a 7) ||| ((1 : Int32) <<< ((a 10) &&& 31)))) 0 1) 1 ((a 1) + 1)) 11 (a 8)), cA cZ hO 16384 (fun w => bI (o w)), cA cI hW 8 v] := hD
                refine lv_aload_n hx hb dX2_endNight_128 rfl (lv_at hl 1 rfl) ?_
                refine mv_V (b := hM) (As := []) (rest := []) (W2 := [cM hM hO hW hY 0 (aF (upd (upd (upd (upd a 7 ((a 7) ||| ((1 : Int32) <<< ((a 10) &&& 31)))) 0 1) 1 ((a 1) + 1)) 11 (a 8))), cA cZ hO 16384 (fun w => bI (o w)), cA cI hW 8 (iUp vM v 8)]) ⟨hx, hb, hml, hown, hts⟩ (c_X2_forgets l D cI cZ cJ _ hM hO hW hY 0 (upd (upd (upd (upd a 7 ((a 7) ||| ((1 : Int32) <<< ((a 10) &&& 31)))) 0 1) 1 ((a 1) + 1)) 11 (a 8)) v) (cwV 0 hts gX2_endNight_X2_forgets rfl rfl rfl (by decide +kernel) ⟨Nat.le_of_ble_eq_true rfl, Nat.le_of_ble_eq_true rfl⟩) hP hD hK hN hS hA (va_recv hK hP (ci := 2) (q0 := 0) rfl rfl) rfl hl.1 rfl (Nat.le_of_ble_eq_true rfl) dX2_endNight_129 ⟨Nat.le_of_ble_eq_true rfl, Nat.le_of_ble_eq_true rfl⟩ [0, 2] [1] rfl rfl rfl (by intro i hi; simp only [List.mem_cons, List.not_mem_nil, or_false] at hi; rcases hi with rfl <;> rfl) rfl 3 rfl (by decide) (by decide) (fun H locs hP hD hS => ?_)
                refine lv_iload_n hx hb dX2_endNight_132 rfl (lv_at hl 0 rfl) ?_
                have hP9 : va_P D vwCl [cM hM hO hW hY 0 (aEn a), cA cZ hO 16384 (fun w => bI ((oDi a o (xDead a)) w)), cA cI hW 8 (iUp vM v 8)] H := by
                  have e9_0 : (aEn a) = (aF (upd (upd (upd (upd a 7 ((a 7) ||| ((1 : Int32) <<< ((a 10) &&& 31)))) 0 1) 1 ((a 1) + 1)) 11 (a 8))) := by (first | rfl | (simp only [aEn, aD2, aD1, oDi, xDead, bI, c_1, c_4, c_14, c_15, eq_self, ↓reduceIte]; done) | (simp only [aEn, aD2, aD1, oDi, xDead, bI, c_1, c_4, c_14, c_15, eq_self, ↓reduceIte]; rfl) | (simp only [aEn, aD2, aD1, oDi, xDead, bI, eq_true c_1, eq_true c_4, c_14, c_15, eq_self, ↓reduceIte]; done) | (simp only [aEn, aD2, aD1, oDi, xDead, bI, eq_true c_1, eq_true c_4, c_14, c_15, eq_self, ↓reduceIte]; rfl) | (simp [aEn, aD2, aD1, oDi, xDead, bI, eq_true c_1, eq_true c_4, c_14, c_15]; done) | simp [aEn, aD2, aD1, oDi, xDead, bI, c_1, c_4, c_14, c_15])
                  have e9_1 : (fun w => bI ((oDi a o (xDead a)) w)) = (fun w => bI (o w)) := by (first | rfl | (simp only [aEn, aD2, aD1, oDi, xDead, bI, c_1, c_4, c_14, c_15, eq_self, ↓reduceIte]; done) | (simp only [aEn, aD2, aD1, oDi, xDead, bI, c_1, c_4, c_14, c_15, eq_self, ↓reduceIte]; rfl) | (simp only [aEn, aD2, aD1, oDi, xDead, bI, eq_true c_1, eq_true c_4, c_14, c_15, eq_self, ↓reduceIte]; done) | (simp only [aEn, aD2, aD1, oDi, xDead, bI, eq_true c_1, eq_true c_4, c_14, c_15, eq_self, ↓reduceIte]; rfl) | (simp [aEn, aD2, aD1, oDi, xDead, bI, eq_true c_1, eq_true c_4, c_14, c_15]; done) | simp [aEn, aD2, aD1, oDi, xDead, bI, c_1, c_4, c_14, c_15])
                  rw [e9_0]
                  rw [e9_1]
                  exact hP
                exact mi_iret hx hb hr hlocks hS (by (first | rfl | (simp only [aEn, aD2, aD1, oDi, xDead, bI, c_1, c_4, c_14, c_15, eq_self, ↓reduceIte]; done) | (simp only [aEn, aD2, aD1, oDi, xDead, bI, c_1, c_4, c_14, c_15, eq_self, ↓reduceIte]; rfl) | (simp only [aEn, aD2, aD1, oDi, xDead, bI, eq_true c_1, eq_true c_4, c_14, c_15, eq_self, ↓reduceIte]; done) | (simp only [aEn, aD2, aD1, oDi, xDead, bI, eq_true c_1, eq_true c_4, c_14, c_15, eq_self, ↓reduceIte]; rfl) | (simp [aEn, aD2, aD1, oDi, xDead, bI, eq_true c_1, eq_true c_4, c_14, c_15]; done) | simp [aEn, aD2, aD1, oDi, xDead, bI, c_1, c_4, c_14, c_15])) hP9 dX2_endNight_133
        · exact absurd c_12 (by decide)
    · exact absurd c_3 (by decide)

theorem in_X2_isGame_X2 : ∀ w ∈ wsX20, w ∈ wsX2_isGame := by decide +kernel
set_option maxHeartbeats 2000000 in
set_option maxRecDepth 100000 in
theorem c_X2_isGame (l : Launch) (D : va_G) (cI cZ cJ : ClassId) (sz : Nat) (hM : Nat) (hO : Nat) (hW : Nat) (hY : Nat) (th : Int32) (a : Nat → Int32)  : Mi l D cI cZ cJ yX2_isGame wsX2_isGame 0 0 sz [.ref hM] [cM hM hO hW hY th a] [cM hM hO hW hY (kGm a) a] (bI (xGm a)) := by
  refine mi_of (by decide) rfl (Nat.le_of_ble_eq_true rfl) (fun p e s m below meth c ls A hx hb hr hml hts hown hlocks hin hP hK hN hD hA hS hl => ?_)
  have hl : lv_has ls 1 [(0, .ref hM)] := hl
  refine lv_aload_n hx hb dX2_isGame_0 rfl (lv_at hl 0 rfl) ?_
  refine lv_aload_n hx hb dX2_isGame_1 rfl (lv_at hl 0 rfl) ?_
  refine va_get (D := D) (cl := vwCl) (ci := 2) (v := .int (a 0)) (C := RX2) (T := TX2) (N := 16) hx hb hts in_X2_isGame_X2 hown hK hP 0 rfl rfl 1 (by decide) (hts (.fieldLink RX2 70 "WitchTrialModel" "phase" "I") (List.mem_of_getElem? (i := 1) rfl)) (fun _ h9 => h9) rfl dX2_isGame_2 ?_
  refine lv_if_ne (tgt := 12) hx hb dX2_isGame_5 (by decide) (fun c_1 => ?_) (fun c_1 => ?_)
  · refine lv_iconst (v := 0) hx hb dX2_isGame_12 (by decide) ?_
    refine va_put (D := D) (cl := vwCl) (ci := 2) (v := .int 0) (ty := .int) (C := RX2) (T := TX2) (N := 16) hx hb hts in_X2_isGame_X2 tyX2 tyX2_ok nmX2 hown hK hP hD hS 0 rfl rfl 0 (by decide) (hts (.fieldLink RX2 20 "WitchTrialModel" "thrown" "I") (List.mem_of_getElem? (i := 2) rfl)) (fun _ h9 => h9) rfl (by decide +kernel) rfl rfl (Nat.le_of_ble_eq_true rfl) dX2_isGame_13 (fun H locs hP hD hS => ?_)
    have hP : va_P D vwCl [cM hM hO hW hY 0 a] H := hP
    have hD : va_D A [cM hM hO hW hY 0 a] := hD
    refine lv_aload_n hx hb dX2_isGame_16 rfl (lv_at hl 0 rfl) ?_
    refine va_get (D := D) (cl := vwCl) (ci := 2) (v := .int 0) (C := RX2) (T := TX2) (N := 16) hx hb hts in_X2_isGame_X2 hown hK hP 0 rfl rfl 0 (by decide) (hts (.fieldLink RX2 20 "WitchTrialModel" "thrown" "I") (List.mem_of_getElem? (i := 2) rfl)) (fun _ h9 => h9) rfl dX2_isGame_17 ?_
    refine lv_if_ne (tgt := 27) hx hb dX2_isGame_20 (by decide) (fun c_2 => ?_) (fun c_2 => ?_)
    · exact absurd c_2 (by decide)
    · refine lv_iconst (v := 1) hx hb dX2_isGame_23 (by decide) ?_
      refine lv_goto (tgt := 28) hx hb dX2_isGame_24 (by decide) ?_
      have hP9 : va_P D vwCl [cM hM hO hW hY (kGm a) a] H := by
        have e9_0 : (kGm a) = 0 := by (first | rfl | (simp only [kGm, xGm, bI, c_1, eq_self, ↓reduceIte]; done) | (simp only [kGm, xGm, bI, c_1, eq_self, ↓reduceIte]; rfl) | simp [kGm, xGm, bI, c_1])
        rw [e9_0]
        exact hP
      exact mi_zret hx hb hr hlocks hS (by (first | rfl | (simp only [kGm, xGm, bI, c_1, eq_self, ↓reduceIte]; done) | (simp only [kGm, xGm, bI, c_1, eq_self, ↓reduceIte]; rfl) | simp [kGm, xGm, bI, c_1])) rfl hP9 dX2_isGame_28
  · refine lv_iconst (v := 1) hx hb dX2_isGame_8 (by decide) ?_
    refine lv_goto (tgt := 13) hx hb dX2_isGame_9 (by decide) ?_
    refine va_put (D := D) (cl := vwCl) (ci := 2) (v := .int 1) (ty := .int) (C := RX2) (T := TX2) (N := 16) hx hb hts in_X2_isGame_X2 tyX2 tyX2_ok nmX2 hown hK hP hD hS 0 rfl rfl 0 (by decide) (hts (.fieldLink RX2 20 "WitchTrialModel" "thrown" "I") (List.mem_of_getElem? (i := 2) rfl)) (fun _ h9 => h9) rfl (by decide +kernel) rfl rfl (Nat.le_of_ble_eq_true rfl) dX2_isGame_13 (fun H locs hP hD hS => ?_)
    have hP : va_P D vwCl [cM hM hO hW hY 1 a] H := hP
    have hD : va_D A [cM hM hO hW hY 1 a] := hD
    refine lv_aload_n hx hb dX2_isGame_16 rfl (lv_at hl 0 rfl) ?_
    refine va_get (D := D) (cl := vwCl) (ci := 2) (v := .int 1) (C := RX2) (T := TX2) (N := 16) hx hb hts in_X2_isGame_X2 hown hK hP 0 rfl rfl 0 (by decide) (hts (.fieldLink RX2 20 "WitchTrialModel" "thrown" "I") (List.mem_of_getElem? (i := 2) rfl)) (fun _ h9 => h9) rfl dX2_isGame_17 ?_
    refine lv_if_ne (tgt := 27) hx hb dX2_isGame_20 (by decide) (fun c_3 => ?_) (fun c_3 => ?_)
    · refine lv_iconst (v := 0) hx hb dX2_isGame_27 (by decide) ?_
      have hP9 : va_P D vwCl [cM hM hO hW hY (kGm a) a] H := by
        have e9_0 : (kGm a) = 1 := by (first | rfl | (simp only [kGm, xGm, bI, c_1, eq_self, ↓reduceIte]; done) | (simp only [kGm, xGm, bI, c_1, eq_self, ↓reduceIte]; rfl) | (simp only [kGm, xGm, bI, eq_true c_1, eq_self, ↓reduceIte]; done) | (simp only [kGm, xGm, bI, eq_true c_1, eq_self, ↓reduceIte]; rfl) | (simp [kGm, xGm, bI, eq_true c_1]; done) | simp [kGm, xGm, bI, c_1])
        rw [e9_0]
        exact hP
      exact mi_zret hx hb hr hlocks hS (by (first | rfl | (simp only [kGm, xGm, bI, c_1, eq_self, ↓reduceIte]; done) | (simp only [kGm, xGm, bI, c_1, eq_self, ↓reduceIte]; rfl) | (simp only [kGm, xGm, bI, eq_true c_1, eq_self, ↓reduceIte]; done) | (simp only [kGm, xGm, bI, eq_true c_1, eq_self, ↓reduceIte]; rfl) | (simp [kGm, xGm, bI, eq_true c_1]; done) | simp [kGm, xGm, bI, c_1])) rfl hP9 dX2_isGame_28
    · exact absurd c_3 (by decide)

theorem in_X2_day_X2 : ∀ w ∈ wsX20, w ∈ wsX2_day := by decide +kernel
set_option maxHeartbeats 2000000 in
set_option maxRecDepth 100000 in
theorem c_X2_day (l : Launch) (D : va_G) (cI cZ cJ : ClassId) (sz : Nat) (hM : Nat) (hO : Nat) (hW : Nat) (hY : Nat) (th : Int32) (a : Nat → Int32)  : Mi l D cI cZ cJ yX2_day wsX2_day 1 20 sz [.ref hM] [cM hM hO hW hY th a] [cM hM hO hW hY (kGm a) a] ((if xGm a = true then a 1 else 0)) := by
  refine mi_of (by decide) rfl (Nat.le_of_ble_eq_true rfl) (fun p e s m below meth c ls A hx hb hr hml hts hown hlocks hin hP hK hN hD hA hS hl => ?_)
  have hl : lv_has ls 1 [(0, .ref hM)] := hl
  refine lv_aload_n hx hb dX2_day_0 rfl (lv_at hl 0 rfl) ?_
  refine mi_V (b := hM) (As := []) (rest := []) (W2 := [cM hM hO hW hY (kGm a) a]) ⟨hx, hb, hml, hown, hts⟩ (c_X2_isGame l D cI cZ cJ _ hM hO hW hY th a) (cwV 0 hts gX2_day_X2_isGame rfl rfl rfl (by decide +kernel) ⟨Nat.le_of_ble_eq_true rfl, Nat.le_of_ble_eq_true rfl⟩) hP hD hK hN hS hA (va_recv hK hP (ci := 2) (q0 := 0) rfl rfl) rfl hl.1 rfl (Nat.le_of_ble_eq_true rfl) dX2_day_1 ⟨Nat.le_of_ble_eq_true rfl, Nat.le_of_ble_eq_true rfl⟩ [0] [] rfl rfl rfl (fun i hi => nomatch hi) rfl 1 rfl (by decide) (by decide) (fun H locs hP hD hS => ?_)
  refine lv_if_eq (tgt := 14) hx hb dX2_day_4 (by decide) (fun c_1 => ?_) (fun c_1 => ?_)
  · have c_1 : (xGm a) = false := bI_0 c_1
    refine lv_iconst (v := 0) hx hb dX2_day_14 (by decide) ?_
    have hP9 : va_P D vwCl [cM hM hO hW hY (kGm a) a] H := by
      exact hP
    exact mi_iret hx hb hr hlocks hS (by (first | rfl | (simp only [kGm, bI, c_1, eq_self, ↓reduceIte]; done) | (simp only [kGm, bI, c_1, eq_self, ↓reduceIte]; rfl) | simp [kGm, bI, c_1])) hP9 dX2_day_15
  · have c_1 : (xGm a) = true := bI_1 c_1
    refine lv_aload_n hx hb dX2_day_7 rfl (lv_at hl 0 rfl) ?_
    refine va_get (D := D) (cl := vwCl) (ci := 2) (v := .int (a 1)) (C := RX2) (T := TX2) (N := 16) hx hb hts in_X2_day_X2 hown hK hP 0 rfl rfl 8 (by decide) (hts (.fieldLink RX2 73 "WitchTrialModel" "day" "I") (List.mem_of_getElem? (i := 1) rfl)) (fun _ h9 => h9) rfl dX2_day_8 ?_
    refine lv_goto (tgt := 15) hx hb dX2_day_11 (by decide) ?_
    have hP9 : va_P D vwCl [cM hM hO hW hY (kGm a) a] H := by
      exact hP
    exact mi_iret hx hb hr hlocks hS (by (first | rfl | (simp only [kGm, bI, c_1, eq_self, ↓reduceIte]; done) | (simp only [kGm, bI, c_1, eq_self, ↓reduceIte]; rfl) | simp [kGm, bI, c_1])) hP9 dX2_day_15

theorem in_X2_alive_X2 : ∀ w ∈ wsX20, w ∈ wsX2_alive := by decide +kernel
set_option maxHeartbeats 2000000 in
set_option maxRecDepth 100000 in
theorem c_X2_alive (l : Launch) (D : va_G) (cI cZ cJ : ClassId) (sz : Nat) (hM : Nat) (hO : Nat) (hW : Nat) (hY : Nat) (th : Int32) (a : Nat → Int32)  : Mi l D cI cZ cJ yX2_alive wsX2_alive 1 20 sz [.ref hM] [cM hM hO hW hY th a] [cM hM hO hW hY (kGm a) a] ((if xGm a = true then a 6 else 0)) := by
  refine mi_of (by decide) rfl (Nat.le_of_ble_eq_true rfl) (fun p e s m below meth c ls A hx hb hr hml hts hown hlocks hin hP hK hN hD hA hS hl => ?_)
  have hl : lv_has ls 1 [(0, .ref hM)] := hl
  refine lv_aload_n hx hb dX2_alive_0 rfl (lv_at hl 0 rfl) ?_
  refine mi_V (b := hM) (As := []) (rest := []) (W2 := [cM hM hO hW hY (kGm a) a]) ⟨hx, hb, hml, hown, hts⟩ (c_X2_isGame l D cI cZ cJ _ hM hO hW hY th a) (cwV 0 hts gX2_alive_X2_isGame rfl rfl rfl (by decide +kernel) ⟨Nat.le_of_ble_eq_true rfl, Nat.le_of_ble_eq_true rfl⟩) hP hD hK hN hS hA (va_recv hK hP (ci := 2) (q0 := 0) rfl rfl) rfl hl.1 rfl (Nat.le_of_ble_eq_true rfl) dX2_alive_1 ⟨Nat.le_of_ble_eq_true rfl, Nat.le_of_ble_eq_true rfl⟩ [0] [] rfl rfl rfl (fun i hi => nomatch hi) rfl 1 rfl (by decide) (by decide) (fun H locs hP hD hS => ?_)
  refine lv_if_eq (tgt := 14) hx hb dX2_alive_4 (by decide) (fun c_1 => ?_) (fun c_1 => ?_)
  · have c_1 : (xGm a) = false := bI_0 c_1
    refine lv_iconst (v := 0) hx hb dX2_alive_14 (by decide) ?_
    have hP9 : va_P D vwCl [cM hM hO hW hY (kGm a) a] H := by
      exact hP
    exact mi_iret hx hb hr hlocks hS (by (first | rfl | (simp only [kGm, bI, c_1, eq_self, ↓reduceIte]; done) | (simp only [kGm, bI, c_1, eq_self, ↓reduceIte]; rfl) | simp [kGm, bI, c_1])) hP9 dX2_alive_15
  · have c_1 : (xGm a) = true := bI_1 c_1
    refine lv_aload_n hx hb dX2_alive_7 rfl (lv_at hl 0 rfl) ?_
    refine va_get (D := D) (cl := vwCl) (ci := 2) (v := .int (a 6)) (C := RX2) (T := TX2) (N := 16) hx hb hts in_X2_alive_X2 hown hK hP 0 rfl rfl 7 (by decide) (hts (.fieldLink RX2 67 "WitchTrialModel" "alive" "I") (List.mem_of_getElem? (i := 1) rfl)) (fun _ h9 => h9) rfl dX2_alive_8 ?_
    refine lv_goto (tgt := 15) hx hb dX2_alive_11 (by decide) ?_
    have hP9 : va_P D vwCl [cM hM hO hW hY (kGm a) a] H := by
      exact hP
    exact mi_iret hx hb hr hlocks hS (by (first | rfl | (simp only [kGm, bI, c_1, eq_self, ↓reduceIte]; done) | (simp only [kGm, bI, c_1, eq_self, ↓reduceIte]; rfl) | simp [kGm, bI, c_1])) hP9 dX2_alive_15

theorem in_X2_lookedAt_X2 : ∀ w ∈ wsX20, w ∈ wsX2_lookedAt := by decide +kernel
set_option maxHeartbeats 2000000 in
set_option maxRecDepth 100000 in
theorem c_X2_lookedAt (l : Launch) (D : va_G) (cI cZ cJ : ClassId) (sz : Nat) (hM : Nat) (hO : Nat) (hW : Nat) (hY : Nat) (th : Int32) (a : Nat → Int32)  : Mi l D cI cZ cJ yX2_lookedAt wsX2_lookedAt 1 20 sz [.ref hM] [cM hM hO hW hY th a] [cM hM hO hW hY (kGm a) a] ((if xGm a = true then a 7 else 0)) := by
  refine mi_of (by decide) rfl (Nat.le_of_ble_eq_true rfl) (fun p e s m below meth c ls A hx hb hr hml hts hown hlocks hin hP hK hN hD hA hS hl => ?_)
  have hl : lv_has ls 1 [(0, .ref hM)] := hl
  refine lv_aload_n hx hb dX2_lookedAt_0 rfl (lv_at hl 0 rfl) ?_
  refine mi_V (b := hM) (As := []) (rest := []) (W2 := [cM hM hO hW hY (kGm a) a]) ⟨hx, hb, hml, hown, hts⟩ (c_X2_isGame l D cI cZ cJ _ hM hO hW hY th a) (cwV 0 hts gX2_lookedAt_X2_isGame rfl rfl rfl (by decide +kernel) ⟨Nat.le_of_ble_eq_true rfl, Nat.le_of_ble_eq_true rfl⟩) hP hD hK hN hS hA (va_recv hK hP (ci := 2) (q0 := 0) rfl rfl) rfl hl.1 rfl (Nat.le_of_ble_eq_true rfl) dX2_lookedAt_1 ⟨Nat.le_of_ble_eq_true rfl, Nat.le_of_ble_eq_true rfl⟩ [0] [] rfl rfl rfl (fun i hi => nomatch hi) rfl 1 rfl (by decide) (by decide) (fun H locs hP hD hS => ?_)
  refine lv_if_eq (tgt := 14) hx hb dX2_lookedAt_4 (by decide) (fun c_1 => ?_) (fun c_1 => ?_)
  · have c_1 : (xGm a) = false := bI_0 c_1
    refine lv_iconst (v := 0) hx hb dX2_lookedAt_14 (by decide) ?_
    have hP9 : va_P D vwCl [cM hM hO hW hY (kGm a) a] H := by
      exact hP
    exact mi_iret hx hb hr hlocks hS (by (first | rfl | (simp only [kGm, bI, c_1, eq_self, ↓reduceIte]; done) | (simp only [kGm, bI, c_1, eq_self, ↓reduceIte]; rfl) | simp [kGm, bI, c_1])) hP9 dX2_lookedAt_15
  · have c_1 : (xGm a) = true := bI_1 c_1
    refine lv_aload_n hx hb dX2_lookedAt_7 rfl (lv_at hl 0 rfl) ?_
    refine va_get (D := D) (cl := vwCl) (ci := 2) (v := .int (a 7)) (C := RX2) (T := TX2) (N := 16) hx hb hts in_X2_lookedAt_X2 hown hK hP 0 rfl rfl 9 (by decide) (hts (.fieldLink RX2 60 "WitchTrialModel" "looked" "I") (List.mem_of_getElem? (i := 1) rfl)) (fun _ h9 => h9) rfl dX2_lookedAt_8 ?_
    refine lv_goto (tgt := 15) hx hb dX2_lookedAt_11 (by decide) ?_
    have hP9 : va_P D vwCl [cM hM hO hW hY (kGm a) a] H := by
      exact hP
    exact mi_iret hx hb hr hlocks hS (by (first | rfl | (simp only [kGm, bI, c_1, eq_self, ↓reduceIte]; done) | (simp only [kGm, bI, c_1, eq_self, ↓reduceIte]; rfl) | simp [kGm, bI, c_1])) hP9 dX2_lookedAt_15

theorem in_X2_asks_X2 : ∀ w ∈ wsX20, w ∈ wsX2_asks := by decide +kernel
set_option maxHeartbeats 2000000 in
set_option maxRecDepth 100000 in
theorem c_X2_asks (l : Launch) (D : va_G) (cI cZ cJ : ClassId) (sz : Nat) (hM : Nat) (hO : Nat) (hW : Nat) (hY : Nat) (th : Int32) (a : Nat → Int32) (q : Int32)  : Mi l D cI cZ cJ yX2_asks wsX2_asks 3 64 sz [.ref hM, .int q] [cM hM hO hW hY th a] [cM hM hO hW hY (kAs a q) a] (bI (decide (kAs a q = 0))) := by
  refine mi_of (by decide) rfl (Nat.le_of_ble_eq_true rfl) (fun p e s m below meth c ls A hx hb hr hml hts hown hlocks hin hP hK hN hD hA hS hl => ?_)
  have hl : lv_has ls 2 [(0, .ref hM), (1, .int q)] := hl
  refine lv_aload_n hx hb dX2_asks_0 rfl (lv_at hl 0 rfl) ?_
  refine lv_aload_n hx hb dX2_asks_1 rfl (lv_at hl 0 rfl) ?_
  refine va_get (D := D) (cl := vwCl) (ci := 2) (v := .int (a 0)) (C := RX2) (T := TX2) (N := 16) hx hb hts in_X2_asks_X2 hown hK hP 0 rfl rfl 1 (by decide) (hts (.fieldLink RX2 70 "WitchTrialModel" "phase" "I") (List.mem_of_getElem? (i := 1) rfl)) (fun _ h9 => h9) rfl dX2_asks_2 ?_
  refine lv_if_ne (tgt := 12) hx hb dX2_asks_5 (by decide) (fun c_1 => ?_) (fun c_1 => ?_)
  · refine lv_aload_n hx hb dX2_asks_12 rfl (lv_at hl 0 rfl) ?_
    refine lv_iload_n hx hb dX2_asks_13 rfl (lv_at hl 1 rfl) ?_
    refine rd_V (b := hM) (As := [.int q]) (rest := [.ref hM]) ⟨hx, hb, hml, hown, hts⟩ (c_X2_isViewer l D cI cZ cJ hM hO hW hY th a q) (cwV 1 hts gX2_asks_X2_isViewer rfl rfl rfl (by decide +kernel) ⟨Nat.le_of_ble_eq_true rfl, Nat.le_of_ble_eq_true rfl⟩) (hP.sub (ws' := [cM hM hO hW hY th a]) [0] rfl) hK hN (va_recv hK hP (ci := 2) (q0 := 0) rfl rfl) rfl hl.1 rfl (Nat.le_of_ble_eq_true rfl) dX2_asks_14 ⟨Nat.le_of_ble_eq_true rfl, Nat.le_of_ble_eq_true rfl⟩ ?_
    refine lv_if_eq (tgt := 24) hx hb dX2_asks_17 (by decide) (fun c_2 => ?_) (fun c_2 => ?_)
    · have c_2 : (xVw a q) = false := bI_0 c_2
      refine lv_iconst (v := 2) hx hb dX2_asks_24 (by decide) ?_
      refine va_put (D := D) (cl := vwCl) (ci := 2) (v := .int 2) (ty := .int) (C := RX2) (T := TX2) (N := 16) hx hb hts in_X2_asks_X2 tyX2 tyX2_ok nmX2 hown hK hP hD hS 0 rfl rfl 0 (by decide) (hts (.fieldLink RX2 20 "WitchTrialModel" "thrown" "I") (List.mem_of_getElem? (i := 2) rfl)) (fun _ h9 => h9) rfl (by decide +kernel) rfl rfl (Nat.le_of_ble_eq_true rfl) dX2_asks_25 (fun H locs hP hD hS => ?_)
      have hP : va_P D vwCl [cM hM hO hW hY 2 a] H := hP
      have hD : va_D A [cM hM hO hW hY 2 a] := hD
      refine lv_aload_n hx hb dX2_asks_28 rfl (lv_at hl 0 rfl) ?_
      refine va_get (D := D) (cl := vwCl) (ci := 2) (v := .int 2) (C := RX2) (T := TX2) (N := 16) hx hb hts in_X2_asks_X2 hown hK hP 0 rfl rfl 0 (by decide) (hts (.fieldLink RX2 20 "WitchTrialModel" "thrown" "I") (List.mem_of_getElem? (i := 2) rfl)) (fun _ h9 => h9) rfl dX2_asks_29 ?_
      refine lv_if_ne (tgt := 39) hx hb dX2_asks_32 (by decide) (fun c_3 => ?_) (fun c_3 => ?_)
      · refine lv_iconst (v := 0) hx hb dX2_asks_39 (by decide) ?_
        have hP9 : va_P D vwCl [cM hM hO hW hY (kAs a q) a] H := by
          have e9_0 : (kAs a q) = 2 := by (first | rfl | (simp only [kAs, bI, c_1, c_2, eq_self, ↓reduceIte]; done) | (simp only [kAs, bI, c_1, c_2, eq_self, ↓reduceIte]; rfl) | simp [kAs, bI, c_1, c_2])
          rw [e9_0]
          exact hP
        exact mi_zret hx hb hr hlocks hS (by (first | rfl | (simp only [kAs, bI, c_1, c_2, eq_self, ↓reduceIte]; done) | (simp only [kAs, bI, c_1, c_2, eq_self, ↓reduceIte]; rfl) | simp [kAs, bI, c_1, c_2])) rfl hP9 dX2_asks_40
      · exact absurd c_3 (by decide)
    · have c_2 : (xVw a q) = true := bI_1 c_2
      refine lv_iconst (v := 0) hx hb dX2_asks_20 (by decide) ?_
      refine lv_goto (tgt := 25) hx hb dX2_asks_21 (by decide) ?_
      refine va_put (D := D) (cl := vwCl) (ci := 2) (v := .int 0) (ty := .int) (C := RX2) (T := TX2) (N := 16) hx hb hts in_X2_asks_X2 tyX2 tyX2_ok nmX2 hown hK hP hD hS 0 rfl rfl 0 (by decide) (hts (.fieldLink RX2 20 "WitchTrialModel" "thrown" "I") (List.mem_of_getElem? (i := 2) rfl)) (fun _ h9 => h9) rfl (by decide +kernel) rfl rfl (Nat.le_of_ble_eq_true rfl) dX2_asks_25 (fun H locs hP hD hS => ?_)
      have hP : va_P D vwCl [cM hM hO hW hY 0 a] H := hP
      have hD : va_D A [cM hM hO hW hY 0 a] := hD
      refine lv_aload_n hx hb dX2_asks_28 rfl (lv_at hl 0 rfl) ?_
      refine va_get (D := D) (cl := vwCl) (ci := 2) (v := .int 0) (C := RX2) (T := TX2) (N := 16) hx hb hts in_X2_asks_X2 hown hK hP 0 rfl rfl 0 (by decide) (hts (.fieldLink RX2 20 "WitchTrialModel" "thrown" "I") (List.mem_of_getElem? (i := 2) rfl)) (fun _ h9 => h9) rfl dX2_asks_29 ?_
      refine lv_if_ne (tgt := 39) hx hb dX2_asks_32 (by decide) (fun c_4 => ?_) (fun c_4 => ?_)
      · exact absurd c_4 (by decide)
      · refine lv_iconst (v := 1) hx hb dX2_asks_35 (by decide) ?_
        refine lv_goto (tgt := 40) hx hb dX2_asks_36 (by decide) ?_
        have hP9 : va_P D vwCl [cM hM hO hW hY (kAs a q) a] H := by
          have e9_0 : (kAs a q) = 0 := by (first | rfl | (simp only [kAs, bI, c_1, c_2, eq_self, ↓reduceIte]; done) | (simp only [kAs, bI, c_1, c_2, eq_self, ↓reduceIte]; rfl) | simp [kAs, bI, c_1, c_2])
          rw [e9_0]
          exact hP
        exact mi_zret hx hb hr hlocks hS (by (first | rfl | (simp only [kAs, bI, c_1, c_2, eq_self, ↓reduceIte]; done) | (simp only [kAs, bI, c_1, c_2, eq_self, ↓reduceIte]; rfl) | simp [kAs, bI, c_1, c_2])) rfl hP9 dX2_asks_40
  · refine lv_iconst (v := 1) hx hb dX2_asks_8 (by decide) ?_
    refine lv_goto (tgt := 25) hx hb dX2_asks_9 (by decide) ?_
    refine va_put (D := D) (cl := vwCl) (ci := 2) (v := .int 1) (ty := .int) (C := RX2) (T := TX2) (N := 16) hx hb hts in_X2_asks_X2 tyX2 tyX2_ok nmX2 hown hK hP hD hS 0 rfl rfl 0 (by decide) (hts (.fieldLink RX2 20 "WitchTrialModel" "thrown" "I") (List.mem_of_getElem? (i := 2) rfl)) (fun _ h9 => h9) rfl (by decide +kernel) rfl rfl (Nat.le_of_ble_eq_true rfl) dX2_asks_25 (fun H locs hP hD hS => ?_)
    have hP : va_P D vwCl [cM hM hO hW hY 1 a] H := hP
    have hD : va_D A [cM hM hO hW hY 1 a] := hD
    refine lv_aload_n hx hb dX2_asks_28 rfl (lv_at hl 0 rfl) ?_
    refine va_get (D := D) (cl := vwCl) (ci := 2) (v := .int 1) (C := RX2) (T := TX2) (N := 16) hx hb hts in_X2_asks_X2 hown hK hP 0 rfl rfl 0 (by decide) (hts (.fieldLink RX2 20 "WitchTrialModel" "thrown" "I") (List.mem_of_getElem? (i := 2) rfl)) (fun _ h9 => h9) rfl dX2_asks_29 ?_
    refine lv_if_ne (tgt := 39) hx hb dX2_asks_32 (by decide) (fun c_5 => ?_) (fun c_5 => ?_)
    · refine lv_iconst (v := 0) hx hb dX2_asks_39 (by decide) ?_
      have hP9 : va_P D vwCl [cM hM hO hW hY (kAs a q) a] H := by
        have e9_0 : (kAs a q) = 1 := by (first | rfl | (simp only [kAs, bI, c_1, eq_self, ↓reduceIte]; done) | (simp only [kAs, bI, c_1, eq_self, ↓reduceIte]; rfl) | (simp only [kAs, bI, eq_true c_1, eq_self, ↓reduceIte]; done) | (simp only [kAs, bI, eq_true c_1, eq_self, ↓reduceIte]; rfl) | (simp [kAs, bI, eq_true c_1]; done) | simp [kAs, bI, c_1])
        rw [e9_0]
        exact hP
      exact mi_zret hx hb hr hlocks hS (by (first | rfl | (simp only [kAs, bI, c_1, eq_self, ↓reduceIte]; done) | (simp only [kAs, bI, c_1, eq_self, ↓reduceIte]; rfl) | (simp only [kAs, bI, eq_true c_1, eq_self, ↓reduceIte]; done) | (simp only [kAs, bI, eq_true c_1, eq_self, ↓reduceIte]; rfl) | (simp [kAs, bI, eq_true c_1]; done) | simp [kAs, bI, c_1])) rfl hP9 dX2_asks_40
    · exact absurd c_5 (by decide)

theorem in_X2_votesFor_X2 : ∀ w ∈ wsX20, w ∈ wsX2_votesFor := by decide +kernel
set_option maxHeartbeats 2000000 in
set_option maxRecDepth 100000 in
theorem c_X2_votesFor (l : Launch) (D : va_G) (cI cZ cJ : ClassId) (sz : Nat) (hM : Nat) (hO : Nat) (hW : Nat) (hY : Nat) (th : Int32) (a : Nat → Int32) (v : Nat → Int32) (q : Int32) (hk : kVf a q = 0) : Mi l D cI cZ cJ yX2_votesFor wsX2_votesFor 2 43 sz [.ref hM, .int q] [cM hM hO hW hY th a, cA cI hW 8 v] [cM hM hO hW hY 0 a, cA cI hW 8 v] (xMv v q 8) := by
  refine mi_of (by decide) rfl (Nat.le_of_ble_eq_true rfl) (fun p e s m below meth c ls A hx hb hr hml hts hown hlocks hin hP hK hN hD hA hS hl => ?_)
  have hl : lv_has ls 2 [(0, .ref hM), (1, .int q)] := hl
  refine lv_aload_n hx hb dX2_votesFor_0 rfl (lv_at hl 0 rfl) ?_
  refine lv_aload_n hx hb dX2_votesFor_1 rfl (lv_at hl 0 rfl) ?_
  refine va_get (D := D) (cl := vwCl) (ci := 2) (v := .int (a 0)) (C := RX2) (T := TX2) (N := 16) hx hb hts in_X2_votesFor_X2 hown hK hP 0 rfl rfl 1 (by decide) (hts (.fieldLink RX2 70 "WitchTrialModel" "phase" "I") (List.mem_of_getElem? (i := 1) rfl)) (fun _ h9 => h9) rfl dX2_votesFor_2 ?_
  refine lv_if_ne (tgt := 12) hx hb dX2_votesFor_5 (by decide) (fun c_1 => ?_) (fun c_1 => ?_)
  · refine lv_aload_n hx hb dX2_votesFor_12 rfl (lv_at hl 0 rfl) ?_
    refine lv_iload_n hx hb dX2_votesFor_13 rfl (lv_at hl 1 rfl) ?_
    refine rd_V (b := hM) (As := [.int q]) (rest := [.ref hM]) ⟨hx, hb, hml, hown, hts⟩ (c_X2_isPlayer l D cI cZ cJ hM hO hW hY th a q) (cwV 1 hts gX2_votesFor_X2_isPlayer rfl rfl rfl (by decide +kernel) ⟨Nat.le_of_ble_eq_true rfl, Nat.le_of_ble_eq_true rfl⟩) (hP.sub (ws' := [cM hM hO hW hY th a]) [0] rfl) hK hN (va_recv hK hP (ci := 2) (q0 := 0) rfl rfl) rfl hl.1 rfl (Nat.le_of_ble_eq_true rfl) dX2_votesFor_14 ⟨Nat.le_of_ble_eq_true rfl, Nat.le_of_ble_eq_true rfl⟩ ?_
    refine lv_if_eq (tgt := 24) hx hb dX2_votesFor_17 (by decide) (fun c_2 => ?_) (fun c_2 => ?_)
    · have c_2 : (xPl a q) = false := bI_0 c_2
      refine lv_iconst (v := 2) hx hb dX2_votesFor_24 (by decide) ?_
      refine va_put (D := D) (cl := vwCl) (ci := 2) (v := .int 2) (ty := .int) (C := RX2) (T := TX2) (N := 16) hx hb hts in_X2_votesFor_X2 tyX2 tyX2_ok nmX2 hown hK hP hD hS 0 rfl rfl 0 (by decide) (hts (.fieldLink RX2 20 "WitchTrialModel" "thrown" "I") (List.mem_of_getElem? (i := 2) rfl)) (fun _ h9 => h9) rfl (by decide +kernel) rfl rfl (Nat.le_of_ble_eq_true rfl) dX2_votesFor_25 (fun H locs hP hD hS => ?_)
      have hP : va_P D vwCl [cM hM hO hW hY 2 a, cA cI hW 8 v] H := hP
      have hD : va_D A [cM hM hO hW hY 2 a, cA cI hW 8 v] := hD
      refine lv_aload_n hx hb dX2_votesFor_28 rfl (lv_at hl 0 rfl) ?_
      refine va_get (D := D) (cl := vwCl) (ci := 2) (v := .int 2) (C := RX2) (T := TX2) (N := 16) hx hb hts in_X2_votesFor_X2 hown hK hP 0 rfl rfl 0 (by decide) (hts (.fieldLink RX2 20 "WitchTrialModel" "thrown" "I") (List.mem_of_getElem? (i := 2) rfl)) (fun _ h9 => h9) rfl dX2_votesFor_29 ?_
      refine lv_if_le (tgt := 39) hx hb dX2_votesFor_32 (by decide) (fun c_3 => ?_) (fun c_3 => ?_)
      · exact absurd c_3 (by decide)
      · exact absurd hk (by simp [kVf, bI, c_1, c_2])
    · have c_2 : (xPl a q) = true := bI_1 c_2
      refine lv_iconst (v := 0) hx hb dX2_votesFor_20 (by decide) ?_
      refine lv_goto (tgt := 25) hx hb dX2_votesFor_21 (by decide) ?_
      refine va_put (D := D) (cl := vwCl) (ci := 2) (v := .int 0) (ty := .int) (C := RX2) (T := TX2) (N := 16) hx hb hts in_X2_votesFor_X2 tyX2 tyX2_ok nmX2 hown hK hP hD hS 0 rfl rfl 0 (by decide) (hts (.fieldLink RX2 20 "WitchTrialModel" "thrown" "I") (List.mem_of_getElem? (i := 2) rfl)) (fun _ h9 => h9) rfl (by decide +kernel) rfl rfl (Nat.le_of_ble_eq_true rfl) dX2_votesFor_25 (fun H locs hP hD hS => ?_)
      have hP : va_P D vwCl [cM hM hO hW hY 0 a, cA cI hW 8 v] H := hP
      have hD : va_D A [cM hM hO hW hY 0 a, cA cI hW 8 v] := hD
      refine lv_aload_n hx hb dX2_votesFor_28 rfl (lv_at hl 0 rfl) ?_
      refine va_get (D := D) (cl := vwCl) (ci := 2) (v := .int 0) (C := RX2) (T := TX2) (N := 16) hx hb hts in_X2_votesFor_X2 hown hK hP 0 rfl rfl 0 (by decide) (hts (.fieldLink RX2 20 "WitchTrialModel" "thrown" "I") (List.mem_of_getElem? (i := 2) rfl)) (fun _ h9 => h9) rfl dX2_votesFor_29 ?_
      refine lv_if_le (tgt := 39) hx hb dX2_votesFor_32 (by decide) (fun c_4 => ?_) (fun c_4 => ?_)
      · refine lv_aload_n hx hb dX2_votesFor_39 rfl (lv_at hl 0 rfl) ?_
        refine lv_iload_n hx hb dX2_votesFor_40 rfl (lv_at hl 1 rfl) ?_
        refine rd_V (b := hM) (As := [.int q]) (rest := []) ⟨hx, hb, hml, hown, hts⟩ (c_X2_manyVotes l D cI cZ cJ hM hO hW hY 0 a v q) (cwV 1 hts gX2_votesFor_X2_manyVotes rfl rfl rfl (by decide +kernel) ⟨Nat.le_of_ble_eq_true rfl, Nat.le_of_ble_eq_true rfl⟩) (hP.sub (ws' := [cM hM hO hW hY 0 a, cA cI hW 8 v]) [0, 1] rfl) hK hN (va_recv hK hP (ci := 2) (q0 := 0) rfl rfl) rfl hl.1 rfl (Nat.le_of_ble_eq_true rfl) dX2_votesFor_41 ⟨Nat.le_of_ble_eq_true rfl, Nat.le_of_ble_eq_true rfl⟩ ?_
        have hP9 : va_P D vwCl [cM hM hO hW hY 0 a, cA cI hW 8 v] H := by
          exact hP
        exact mi_iret hx hb hr hlocks hS (by rfl) hP9 dX2_votesFor_44
      · exact absurd c_4 (by decide)
  · refine lv_iconst (v := 1) hx hb dX2_votesFor_8 (by decide) ?_
    refine lv_goto (tgt := 25) hx hb dX2_votesFor_9 (by decide) ?_
    refine va_put (D := D) (cl := vwCl) (ci := 2) (v := .int 1) (ty := .int) (C := RX2) (T := TX2) (N := 16) hx hb hts in_X2_votesFor_X2 tyX2 tyX2_ok nmX2 hown hK hP hD hS 0 rfl rfl 0 (by decide) (hts (.fieldLink RX2 20 "WitchTrialModel" "thrown" "I") (List.mem_of_getElem? (i := 2) rfl)) (fun _ h9 => h9) rfl (by decide +kernel) rfl rfl (Nat.le_of_ble_eq_true rfl) dX2_votesFor_25 (fun H locs hP hD hS => ?_)
    have hP : va_P D vwCl [cM hM hO hW hY 1 a, cA cI hW 8 v] H := hP
    have hD : va_D A [cM hM hO hW hY 1 a, cA cI hW 8 v] := hD
    refine lv_aload_n hx hb dX2_votesFor_28 rfl (lv_at hl 0 rfl) ?_
    refine va_get (D := D) (cl := vwCl) (ci := 2) (v := .int 1) (C := RX2) (T := TX2) (N := 16) hx hb hts in_X2_votesFor_X2 hown hK hP 0 rfl rfl 0 (by decide) (hts (.fieldLink RX2 20 "WitchTrialModel" "thrown" "I") (List.mem_of_getElem? (i := 2) rfl)) (fun _ h9 => h9) rfl dX2_votesFor_29 ?_
    refine lv_if_le (tgt := 39) hx hb dX2_votesFor_32 (by decide) (fun c_5 => ?_) (fun c_5 => ?_)
    · exact absurd c_5 (by decide)
    · exact absurd hk (by simp [kVf, bI, c_1])

set_option maxHeartbeats 2000000 in
set_option maxRecDepth 100000 in
theorem f_X2_votesFor (l : Launch) (D : va_G) (cI cZ cJ : ClassId) (sz : Nat) (hM : Nat) (hO : Nat) (hW : Nat) (hY : Nat) (th : Int32) (a : Nat → Int32) (q : Int32) (hk : ¬ kVf a q = 0) : Mi l D cI cZ cJ yX2_votesFor wsX2_votesFor 2 43 sz [.ref hM, .int q] [cM hM hO hW hY th a] [cM hM hO hW hY (kVf a q) a] (0) := by
  refine mi_of (by decide) rfl (Nat.le_of_ble_eq_true rfl) (fun p e s m below meth c ls A hx hb hr hml hts hown hlocks hin hP hK hN hD hA hS hl => ?_)
  have hl : lv_has ls 2 [(0, .ref hM), (1, .int q)] := hl
  refine lv_aload_n hx hb dX2_votesFor_0 rfl (lv_at hl 0 rfl) ?_
  refine lv_aload_n hx hb dX2_votesFor_1 rfl (lv_at hl 0 rfl) ?_
  refine va_get (D := D) (cl := vwCl) (ci := 2) (v := .int (a 0)) (C := RX2) (T := TX2) (N := 16) hx hb hts in_X2_votesFor_X2 hown hK hP 0 rfl rfl 1 (by decide) (hts (.fieldLink RX2 70 "WitchTrialModel" "phase" "I") (List.mem_of_getElem? (i := 1) rfl)) (fun _ h9 => h9) rfl dX2_votesFor_2 ?_
  refine lv_if_ne (tgt := 12) hx hb dX2_votesFor_5 (by decide) (fun c_1 => ?_) (fun c_1 => ?_)
  · refine lv_aload_n hx hb dX2_votesFor_12 rfl (lv_at hl 0 rfl) ?_
    refine lv_iload_n hx hb dX2_votesFor_13 rfl (lv_at hl 1 rfl) ?_
    refine rd_V (b := hM) (As := [.int q]) (rest := [.ref hM]) ⟨hx, hb, hml, hown, hts⟩ (c_X2_isPlayer l D cI cZ cJ hM hO hW hY th a q) (cwV 1 hts gX2_votesFor_X2_isPlayer rfl rfl rfl (by decide +kernel) ⟨Nat.le_of_ble_eq_true rfl, Nat.le_of_ble_eq_true rfl⟩) (hP.sub (ws' := [cM hM hO hW hY th a]) [0] rfl) hK hN (va_recv hK hP (ci := 2) (q0 := 0) rfl rfl) rfl hl.1 rfl (Nat.le_of_ble_eq_true rfl) dX2_votesFor_14 ⟨Nat.le_of_ble_eq_true rfl, Nat.le_of_ble_eq_true rfl⟩ ?_
    refine lv_if_eq (tgt := 24) hx hb dX2_votesFor_17 (by decide) (fun c_2 => ?_) (fun c_2 => ?_)
    · have c_2 : (xPl a q) = false := bI_0 c_2
      refine lv_iconst (v := 2) hx hb dX2_votesFor_24 (by decide) ?_
      refine va_put (D := D) (cl := vwCl) (ci := 2) (v := .int 2) (ty := .int) (C := RX2) (T := TX2) (N := 16) hx hb hts in_X2_votesFor_X2 tyX2 tyX2_ok nmX2 hown hK hP hD hS 0 rfl rfl 0 (by decide) (hts (.fieldLink RX2 20 "WitchTrialModel" "thrown" "I") (List.mem_of_getElem? (i := 2) rfl)) (fun _ h9 => h9) rfl (by decide +kernel) rfl rfl (Nat.le_of_ble_eq_true rfl) dX2_votesFor_25 (fun H locs hP hD hS => ?_)
      have hP : va_P D vwCl [cM hM hO hW hY 2 a] H := hP
      have hD : va_D A [cM hM hO hW hY 2 a] := hD
      refine lv_aload_n hx hb dX2_votesFor_28 rfl (lv_at hl 0 rfl) ?_
      refine va_get (D := D) (cl := vwCl) (ci := 2) (v := .int 2) (C := RX2) (T := TX2) (N := 16) hx hb hts in_X2_votesFor_X2 hown hK hP 0 rfl rfl 0 (by decide) (hts (.fieldLink RX2 20 "WitchTrialModel" "thrown" "I") (List.mem_of_getElem? (i := 2) rfl)) (fun _ h9 => h9) rfl dX2_votesFor_29 ?_
      refine lv_if_le (tgt := 39) hx hb dX2_votesFor_32 (by decide) (fun c_3 => ?_) (fun c_3 => ?_)
      · exact absurd c_3 (by decide)
      · refine lv_iconst (v := 0) hx hb dX2_votesFor_35 (by decide) ?_
        refine lv_goto (tgt := 44) hx hb dX2_votesFor_36 (by decide) ?_
        have hP9 : va_P D vwCl [cM hM hO hW hY (kVf a q) a] H := by
          have e9_0 : (kVf a q) = 2 := by (first | rfl | (simp only [kVf, bI, c_1, c_2, eq_self, ↓reduceIte]; done) | (simp only [kVf, bI, c_1, c_2, eq_self, ↓reduceIte]; rfl) | simp [kVf, bI, c_1, c_2])
          rw [e9_0]
          exact hP
        exact mi_iret hx hb hr hlocks hS (by rfl) hP9 dX2_votesFor_44
    · have c_2 : (xPl a q) = true := bI_1 c_2
      refine lv_iconst (v := 0) hx hb dX2_votesFor_20 (by decide) ?_
      refine lv_goto (tgt := 25) hx hb dX2_votesFor_21 (by decide) ?_
      refine va_put (D := D) (cl := vwCl) (ci := 2) (v := .int 0) (ty := .int) (C := RX2) (T := TX2) (N := 16) hx hb hts in_X2_votesFor_X2 tyX2 tyX2_ok nmX2 hown hK hP hD hS 0 rfl rfl 0 (by decide) (hts (.fieldLink RX2 20 "WitchTrialModel" "thrown" "I") (List.mem_of_getElem? (i := 2) rfl)) (fun _ h9 => h9) rfl (by decide +kernel) rfl rfl (Nat.le_of_ble_eq_true rfl) dX2_votesFor_25 (fun H locs hP hD hS => ?_)
      have hP : va_P D vwCl [cM hM hO hW hY 0 a] H := hP
      have hD : va_D A [cM hM hO hW hY 0 a] := hD
      refine lv_aload_n hx hb dX2_votesFor_28 rfl (lv_at hl 0 rfl) ?_
      refine va_get (D := D) (cl := vwCl) (ci := 2) (v := .int 0) (C := RX2) (T := TX2) (N := 16) hx hb hts in_X2_votesFor_X2 hown hK hP 0 rfl rfl 0 (by decide) (hts (.fieldLink RX2 20 "WitchTrialModel" "thrown" "I") (List.mem_of_getElem? (i := 2) rfl)) (fun _ h9 => h9) rfl dX2_votesFor_29 ?_
      refine lv_if_le (tgt := 39) hx hb dX2_votesFor_32 (by decide) (fun c_4 => ?_) (fun c_4 => ?_)
      · exact absurd hk (by simp [kVf, bI, c_1, c_2])
      · exact absurd c_4 (by decide)
  · refine lv_iconst (v := 1) hx hb dX2_votesFor_8 (by decide) ?_
    refine lv_goto (tgt := 25) hx hb dX2_votesFor_9 (by decide) ?_
    refine va_put (D := D) (cl := vwCl) (ci := 2) (v := .int 1) (ty := .int) (C := RX2) (T := TX2) (N := 16) hx hb hts in_X2_votesFor_X2 tyX2 tyX2_ok nmX2 hown hK hP hD hS 0 rfl rfl 0 (by decide) (hts (.fieldLink RX2 20 "WitchTrialModel" "thrown" "I") (List.mem_of_getElem? (i := 2) rfl)) (fun _ h9 => h9) rfl (by decide +kernel) rfl rfl (Nat.le_of_ble_eq_true rfl) dX2_votesFor_25 (fun H locs hP hD hS => ?_)
    have hP : va_P D vwCl [cM hM hO hW hY 1 a] H := hP
    have hD : va_D A [cM hM hO hW hY 1 a] := hD
    refine lv_aload_n hx hb dX2_votesFor_28 rfl (lv_at hl 0 rfl) ?_
    refine va_get (D := D) (cl := vwCl) (ci := 2) (v := .int 1) (C := RX2) (T := TX2) (N := 16) hx hb hts in_X2_votesFor_X2 hown hK hP 0 rfl rfl 0 (by decide) (hts (.fieldLink RX2 20 "WitchTrialModel" "thrown" "I") (List.mem_of_getElem? (i := 2) rfl)) (fun _ h9 => h9) rfl dX2_votesFor_29 ?_
    refine lv_if_le (tgt := 39) hx hb dX2_votesFor_32 (by decide) (fun c_5 => ?_) (fun c_5 => ?_)
    · exact absurd c_5 (by decide)
    · refine lv_iconst (v := 0) hx hb dX2_votesFor_35 (by decide) ?_
      refine lv_goto (tgt := 44) hx hb dX2_votesFor_36 (by decide) ?_
      have hP9 : va_P D vwCl [cM hM hO hW hY (kVf a q) a] H := by
        have e9_0 : (kVf a q) = 1 := by (first | rfl | (simp only [kVf, bI, c_1, eq_self, ↓reduceIte]; done) | (simp only [kVf, bI, c_1, eq_self, ↓reduceIte]; rfl) | (simp only [kVf, bI, eq_true c_1, eq_self, ↓reduceIte]; done) | (simp only [kVf, bI, eq_true c_1, eq_self, ↓reduceIte]; rfl) | (simp [kVf, bI, eq_true c_1]; done) | simp [kVf, bI, c_1])
        rw [e9_0]
        exact hP
      exact mi_iret hx hb hr hlocks hS (by rfl) hP9 dX2_votesFor_44

theorem in_X2_manyFor_X2 : ∀ w ∈ wsX20, w ∈ wsX2_manyFor := by decide +kernel
set_option maxHeartbeats 2000000 in
set_option maxRecDepth 100000 in
theorem c_X2_manyFor (l : Launch) (D : va_G) (cI cZ cJ : ClassId) (hM : Nat) (hO : Nat) (hW : Nat) (hY : Nat) (th : Int32) (a : Nat → Int32) (o : Nat → Bool) (q : Int32)  : Rd l D cI cZ cJ yX2_manyFor wsX2_manyFor 3 66 [.ref hM, .int q] [cM hM hO hW hY th a, cA cZ hO 16384 (fun w => bI (o w))] (xCnt (xFor a o q) 16384) := by
  refine rd_of (by decide) rfl (Nat.le_of_ble_eq_true rfl) (fun p e s m below meth c ls hx hb hr hml hts hown hlocks hP hK hN hl => ?_)
  have hl : lv_has ls 4 [(0, .ref hM), (1, .int q)] := hl
  refine lv_iconst (v := 0) hx hb dX2_manyFor_0 (by decide) ?_
  refine lv_istore_n (lv' := [(2, .int 0), (0, .ref hM), (1, .int q)]) hx hb dX2_manyFor_1 rfl hl (by decide) rfl (fun ls hl => ?_)
  refine lv_iconst (v := 0) hx hb dX2_manyFor_2 (by decide) ?_
  refine lv_istore_n (lv' := [(3, .int 0), (2, .int 0), (0, .ref hM), (1, .int q)]) hx hb dX2_manyFor_3 rfl hl (by decide) rfl (fun ls hl => ?_)
  refine loop_R (nL := 4) (h := 4) 16384 (fun i => [(0, .ref hM), (1, .int q), (2, .int (xCnt (xFor a o q) i)), (3, .int (nI i))]) (fun _ => True) (fun i hi hI ih_i ls hl => ?_) 0 (by omega) trivial ls ?_
  · have hl : lv_has ls 4 [(0, .ref hM), (1, .int q), (2, .int (xCnt (xFor a o q) i)), (3, .int (nI i))] := hl
    refine lv_iload_n hx hb dX2_manyFor_4 rfl (lv_at hl 3 rfl) ?_
    refine lv_sipush (v := 16384) hx hb dX2_manyFor_5 (by decide) ?_
    refine lv_icmp_ge (tgt := 34) hx hb dX2_manyFor_8 (by decide) (fun c_2 => ?_) (fun c_2 => ?_)
    · have hi9 : 16384 = i := (geN hi (by omega) rfl c_2).symm
      subst hi9
      refine lv_iload_n hx hb dX2_manyFor_34 rfl (lv_at hl 2 rfl) ?_
      exact rd_iret hx hb hr hlocks (by rfl) dX2_manyFor_35
    · have hlt : i < 16384 := ltN hi (by omega) rfl c_2
      refine lv_iload_n hx hb dX2_manyFor_11 rfl (lv_at hl 2 rfl) ?_
      refine lv_aload_n hx hb dX2_manyFor_12 rfl (lv_at hl 0 rfl) ?_
      refine lv_iload_n hx hb dX2_manyFor_13 rfl (lv_at hl 1 rfl) ?_
      refine lv_iload_n hx hb dX2_manyFor_14 rfl (lv_at hl 3 rfl) ?_
      refine rd_V (b := hM) (As := [.int q, .int (nI i)]) (rest := [.int (xCnt (xFor a o q) i)]) ⟨hx, hb, hml, hown, hts⟩ (c_X2_isFor l D cI cZ cJ hM hO hW hY th a o q i (by first | assumption | omega)) (cwV 2 hts gX2_manyFor_X2_isFor rfl rfl rfl (by decide +kernel) ⟨Nat.le_of_ble_eq_true rfl, Nat.le_of_ble_eq_true rfl⟩) (hP.sub (ws' := [cM hM hO hW hY th a, cA cZ hO 16384 (fun w => bI (o w))]) [0, 1] rfl) hK hN (va_recv hK hP (ci := 2) (q0 := 0) rfl rfl) rfl hl.1 rfl (Nat.le_of_ble_eq_true rfl) dX2_manyFor_15 ⟨Nat.le_of_ble_eq_true rfl, Nat.le_of_ble_eq_true rfl⟩ ?_
      refine lv_if_eq (tgt := 25) hx hb dX2_manyFor_18 (by decide) (fun c_3 => ?_) (fun c_3 => ?_)
      · have c_3 : (xFor a o q i) = false := bI_0 c_3
        refine lv_iconst (v := 0) hx hb dX2_manyFor_25 (by decide) ?_
        refine lv_iadd hx hb dX2_manyFor_26 ?_
        refine lv_istore_n (lv' := [(2, .int ((xCnt (xFor a o q) i) + 0)), (0, .ref hM), (1, .int q), (3, .int (nI i))]) hx hb dX2_manyFor_27 rfl hl (by decide) rfl (fun ls hl => ?_)
        refine lv_iinc (v := (nI (i + 1))) (lv' := [(3, .int (nI (i + 1))), (2, .int ((xCnt (xFor a o q) i) + 0)), (0, .ref hM), (1, .int q)]) hx hb dX2_manyFor_28 hl (k := 3) rfl (nI_1 i) (by decide) rfl (fun ls hl => ?_)
        refine lv_goto (tgt := 4) hx hb dX2_manyFor_31 (by decide) ?_
        have eb_0 : (xCnt (xFor a o q) (i + 1)) = ((xCnt (xFor a o q) i) + 0) := by (first | rfl | (simp only [bI, xCnt, xWt, c_2, c_3, eq_self, ↓reduceIte]; done) | (simp only [bI, xCnt, xWt, c_2, c_3, eq_self, ↓reduceIte]; rfl) | simp [bI, xCnt, xWt, c_2, c_3])
        exact ih_i (by omega) trivial ls (by show lv_has ls 4 [(0, .ref hM), (1, .int q), (2, .int (xCnt (xFor a o q) (i + 1))), (3, .int (nI (i + 1)))]; rw [eb_0]; exact lv_sub hl [2, 3, 1, 0] rfl)
      · have c_3 : (xFor a o q i) = true := bI_1 c_3
        refine lv_iconst (v := 1) hx hb dX2_manyFor_21 (by decide) ?_
        refine lv_goto (tgt := 26) hx hb dX2_manyFor_22 (by decide) ?_
        refine lv_iadd hx hb dX2_manyFor_26 ?_
        refine lv_istore_n (lv' := [(2, .int ((xCnt (xFor a o q) i) + 1)), (0, .ref hM), (1, .int q), (3, .int (nI i))]) hx hb dX2_manyFor_27 rfl hl (by decide) rfl (fun ls hl => ?_)
        refine lv_iinc (v := (nI (i + 1))) (lv' := [(3, .int (nI (i + 1))), (2, .int ((xCnt (xFor a o q) i) + 1)), (0, .ref hM), (1, .int q)]) hx hb dX2_manyFor_28 hl (k := 3) rfl (nI_1 i) (by decide) rfl (fun ls hl => ?_)
        refine lv_goto (tgt := 4) hx hb dX2_manyFor_31 (by decide) ?_
        have eb_0 : (xCnt (xFor a o q) (i + 1)) = ((xCnt (xFor a o q) i) + 1) := by (first | rfl | (simp only [bI, xCnt, xWt, c_2, c_3, eq_self, ↓reduceIte]; done) | (simp only [bI, xCnt, xWt, c_2, c_3, eq_self, ↓reduceIte]; rfl) | simp [bI, xCnt, xWt, c_2, c_3])
        exact ih_i (by omega) trivial ls (by show lv_has ls 4 [(0, .ref hM), (1, .int q), (2, .int (xCnt (xFor a o q) (i + 1))), (3, .int (nI (i + 1)))]; rw [eb_0]; exact lv_sub hl [2, 3, 1, 0] rfl)
  · show lv_has ls 4 [(0, .ref hM), (1, .int q), (2, .int (xCnt (xFor a o q) 0)), (3, .int (nI 0))]
    have en_0 : (xCnt (xFor a o q) 0) = 0 := by rfl
    rw [en_0]
    have en_1 : (nI 0) = 0 := by exact nI_0
    rw [en_1]
    exact lv_sub hl [2, 3, 1, 0] rfl

theorem in_X2_manyWith_X2 : ∀ w ∈ wsX20, w ∈ wsX2_manyWith := by decide +kernel
set_option maxHeartbeats 2000000 in
set_option maxRecDepth 100000 in
theorem c_X2_manyWith (l : Launch) (D : va_G) (cI cZ cJ : ClassId) (hM : Nat) (hO : Nat) (hW : Nat) (hY : Nat) (th : Int32) (a : Nat → Int32) (o : Nat → Bool) (q : Int32) (r : Int32) (k : Int32)  : Rd l D cI cZ cJ yX2_manyWith wsX2_manyWith 3 66 [.ref hM, .int q, .int r, .int k] [cM hM hO hW hY th a, cA cZ hO 16384 (fun w => bI (o w))] (xCnt (xWt a o q r k) 16384) := by
  refine rd_of (by decide) rfl (Nat.le_of_ble_eq_true rfl) (fun p e s m below meth c ls hx hb hr hml hts hown hlocks hP hK hN hl => ?_)
  have hl : lv_has ls 6 [(0, .ref hM), (1, .int q), (2, .int r), (3, .int k)] := hl
  refine lv_iconst (v := 0) hx hb dX2_manyWith_0 (by decide) ?_
  refine lv_istore (lv' := [(4, .int 0), (0, .ref hM), (1, .int q), (2, .int r), (3, .int k)]) hx hb dX2_manyWith_1 hl (by decide) rfl (fun ls hl => ?_)
  refine lv_iconst (v := 0) hx hb dX2_manyWith_3 (by decide) ?_
  refine lv_istore (lv' := [(5, .int 0), (4, .int 0), (0, .ref hM), (1, .int q), (2, .int r), (3, .int k)]) hx hb dX2_manyWith_4 hl (by decide) rfl (fun ls hl => ?_)
  refine loop_R (nL := 6) (h := 6) 16384 (fun i => [(0, .ref hM), (1, .int q), (2, .int r), (3, .int k), (4, .int (xCnt (xWt a o q r k) i)), (5, .int (nI i))]) (fun _ => True) (fun i hi hI ih_i ls hl => ?_) 0 (by omega) trivial ls ?_
  · have hl : lv_has ls 6 [(0, .ref hM), (1, .int q), (2, .int r), (3, .int k), (4, .int (xCnt (xWt a o q r k) i)), (5, .int (nI i))] := hl
    refine lv_iload hx hb dX2_manyWith_6 (lv_at hl 5 rfl) ?_
    refine lv_sipush (v := 16384) hx hb dX2_manyWith_8 (by decide) ?_
    refine lv_icmp_ge (tgt := 60) hx hb dX2_manyWith_11 (by decide) (fun c_2 => ?_) (fun c_2 => ?_)
    · have hi9 : 16384 = i := (geN hi (by omega) rfl c_2).symm
      subst hi9
      refine lv_iload hx hb dX2_manyWith_60 (lv_at hl 4 rfl) ?_
      exact rd_iret hx hb hr hlocks (by rfl) dX2_manyWith_62
    · have hlt : i < 16384 := ltN hi (by omega) rfl c_2
      refine lv_iload hx hb dX2_manyWith_14 (lv_at hl 4 rfl) ?_
      refine lv_aload_n hx hb dX2_manyWith_16 rfl (lv_at hl 0 rfl) ?_
      refine va_get (D := D) (cl := vwCl) (ci := 2) (v := .ref hO) (C := RX2) (T := TX2) (N := 16) hx hb hts in_X2_manyWith_X2 hown hK hP 0 rfl rfl 6 (by decide) (hts (.fieldLink RX2 7 "WitchTrialModel" "isOpen" "[Z") (List.mem_of_getElem? (i := 1) rfl)) (fun _ h9 => h9) rfl dX2_manyWith_17 ?_
      refine lv_iload hx hb dX2_manyWith_20 (lv_at hl 5 rfl) ?_
      refine q_zald (D := D) (j := i) (v := (bI (o i))) hx hb hK hP 1 1 rfl rfl hlt (Nat.le_of_ble_eq_true rfl) rfl dX2_manyWith_22 ?_
      refine lv_if_eq (tgt := 50) hx hb dX2_manyWith_23 (by decide) (fun c_3 => ?_) (fun c_3 => ?_)
      · have c_3 : (o i) = false := bI_0 c_3
        refine lv_iconst (v := 0) hx hb dX2_manyWith_50 (by decide) ?_
        refine lv_iadd hx hb dX2_manyWith_51 ?_
        refine lv_istore (lv' := [(4, .int ((xCnt (xWt a o q r k) i) + 0)), (0, .ref hM), (1, .int q), (2, .int r), (3, .int k), (5, .int (nI i))]) hx hb dX2_manyWith_52 hl (by decide) rfl (fun ls hl => ?_)
        refine lv_iinc (v := (nI (i + 1))) (lv' := [(5, .int (nI (i + 1))), (4, .int ((xCnt (xWt a o q r k) i) + 0)), (0, .ref hM), (1, .int q), (2, .int r), (3, .int k)]) hx hb dX2_manyWith_54 hl (k := 5) rfl (nI_1 i) (by decide) rfl (fun ls hl => ?_)
        refine lv_goto (tgt := 6) hx hb dX2_manyWith_57 (by decide) ?_
        have eb_0 : (xCnt (xWt a o q r k) (i + 1)) = ((xCnt (xWt a o q r k) i) + 0) := by (first | rfl | (simp only [bI, xCnt, xWt, c_2, c_3, eq_self, ↓reduceIte]; done) | (simp only [bI, xCnt, xWt, c_2, c_3, eq_self, ↓reduceIte]; rfl) | simp [bI, xCnt, xWt, c_2, c_3])
        exact ih_i (by omega) trivial ls (by show lv_has ls 6 [(0, .ref hM), (1, .int q), (2, .int r), (3, .int k), (4, .int (xCnt (xWt a o q r k) (i + 1))), (5, .int (nI (i + 1)))]; rw [eb_0]; exact lv_sub hl [2, 3, 4, 5, 1, 0] rfl)
      · have c_3 : (o i) = true := bI_1 c_3
        refine lv_iload hx hb dX2_manyWith_26 (lv_at hl 5 rfl) ?_
        refine lv_iload_n hx hb dX2_manyWith_28 rfl (lv_at hl 2 rfl) ?_
        refine rd_S (As := [.int (nI i), .int r]) (rest := [.int (xCnt (xWt a o q r k) i)]) ⟨hx, hb, hml, hown, hts⟩ (c_X2_roleIn l D cI cZ cJ (nI i) r) (va_cwS 2 hts gX2_manyWith_X2_roleIn rfl rfl rfl (by decide +kernel) ⟨Nat.le_of_ble_eq_true rfl, Nat.le_of_ble_eq_true rfl⟩) (hP.sub (ws' := []) [] rfl) hK hN rfl hl.1 rfl (Nat.le_of_ble_eq_true rfl) dX2_manyWith_29 ⟨Nat.le_of_ble_eq_true rfl, Nat.le_of_ble_eq_true rfl⟩ ?_
        refine lv_iload_n hx hb dX2_manyWith_32 rfl (lv_at hl 3 rfl) ?_
        refine lv_icmp_ne (tgt := 50) hx hb dX2_manyWith_33 (by decide) (fun c_4 => ?_) (fun c_4 => ?_)
        · refine lv_iconst (v := 0) hx hb dX2_manyWith_50 (by decide) ?_
          refine lv_iadd hx hb dX2_manyWith_51 ?_
          refine lv_istore (lv' := [(4, .int ((xCnt (xWt a o q r k) i) + 0)), (0, .ref hM), (1, .int q), (2, .int r), (3, .int k), (5, .int (nI i))]) hx hb dX2_manyWith_52 hl (by decide) rfl (fun ls hl => ?_)
          refine lv_iinc (v := (nI (i + 1))) (lv' := [(5, .int (nI (i + 1))), (4, .int ((xCnt (xWt a o q r k) i) + 0)), (0, .ref hM), (1, .int q), (2, .int r), (3, .int k)]) hx hb dX2_manyWith_54 hl (k := 5) rfl (nI_1 i) (by decide) rfl (fun ls hl => ?_)
          refine lv_goto (tgt := 6) hx hb dX2_manyWith_57 (by decide) ?_
          have eb_0 : (xCnt (xWt a o q r k) (i + 1)) = ((xCnt (xWt a o q r k) i) + 0) := by (first | rfl | (simp only [bI, xCnt, xWt, c_2, c_3, c_4, eq_self, ↓reduceIte]; done) | (simp only [bI, xCnt, xWt, c_2, c_3, c_4, eq_self, ↓reduceIte]; rfl) | simp [bI, xCnt, xWt, c_2, c_3, c_4])
          exact ih_i (by omega) trivial ls (by show lv_has ls 6 [(0, .ref hM), (1, .int q), (2, .int r), (3, .int k), (4, .int (xCnt (xWt a o q r k) (i + 1))), (5, .int (nI (i + 1)))]; rw [eb_0]; exact lv_sub hl [2, 3, 4, 5, 1, 0] rfl)
        · refine lv_aload_n hx hb dX2_manyWith_36 rfl (lv_at hl 0 rfl) ?_
          refine lv_iload_n hx hb dX2_manyWith_37 rfl (lv_at hl 1 rfl) ?_
          refine lv_iload hx hb dX2_manyWith_38 (lv_at hl 5 rfl) ?_
          refine rd_V (b := hM) (As := [.int q, .int (nI i)]) (rest := [.int (xCnt (xWt a o q r k) i)]) ⟨hx, hb, hml, hown, hts⟩ (c_X2_isFor l D cI cZ cJ hM hO hW hY th a o q i (by first | assumption | omega)) (cwV 2 hts gX2_manyWith_X2_isFor rfl rfl rfl (by decide +kernel) ⟨Nat.le_of_ble_eq_true rfl, Nat.le_of_ble_eq_true rfl⟩) (hP.sub (ws' := [cM hM hO hW hY th a, cA cZ hO 16384 (fun w => bI (o w))]) [0, 1] rfl) hK hN (va_recv hK hP (ci := 2) (q0 := 0) rfl rfl) rfl hl.1 rfl (Nat.le_of_ble_eq_true rfl) dX2_manyWith_40 ⟨Nat.le_of_ble_eq_true rfl, Nat.le_of_ble_eq_true rfl⟩ ?_
          refine lv_if_eq (tgt := 50) hx hb dX2_manyWith_43 (by decide) (fun c_5 => ?_) (fun c_5 => ?_)
          · have c_5 : (xFor a o q i) = false := bI_0 c_5
            refine lv_iconst (v := 0) hx hb dX2_manyWith_50 (by decide) ?_
            refine lv_iadd hx hb dX2_manyWith_51 ?_
            refine lv_istore (lv' := [(4, .int ((xCnt (xWt a o q r k) i) + 0)), (0, .ref hM), (1, .int q), (2, .int r), (3, .int k), (5, .int (nI i))]) hx hb dX2_manyWith_52 hl (by decide) rfl (fun ls hl => ?_)
            refine lv_iinc (v := (nI (i + 1))) (lv' := [(5, .int (nI (i + 1))), (4, .int ((xCnt (xWt a o q r k) i) + 0)), (0, .ref hM), (1, .int q), (2, .int r), (3, .int k)]) hx hb dX2_manyWith_54 hl (k := 5) rfl (nI_1 i) (by decide) rfl (fun ls hl => ?_)
            refine lv_goto (tgt := 6) hx hb dX2_manyWith_57 (by decide) ?_
            have eb_0 : (xCnt (xWt a o q r k) (i + 1)) = ((xCnt (xWt a o q r k) i) + 0) := by (first | rfl | (simp only [bI, xCnt, xWt, c_2, c_3, c_4, c_5, eq_self, ↓reduceIte]; done) | (simp only [bI, xCnt, xWt, c_2, c_3, c_4, c_5, eq_self, ↓reduceIte]; rfl) | (simp only [bI, xCnt, xWt, c_2, c_3, eq_true c_4, c_5, eq_self, ↓reduceIte]; done) | (simp only [bI, xCnt, xWt, c_2, c_3, eq_true c_4, c_5, eq_self, ↓reduceIte]; rfl) | (simp [bI, xCnt, xWt, c_2, c_3, eq_true c_4, c_5]; done) | simp [bI, xCnt, xWt, c_2, c_3, c_4, c_5])
            exact ih_i (by omega) trivial ls (by show lv_has ls 6 [(0, .ref hM), (1, .int q), (2, .int r), (3, .int k), (4, .int (xCnt (xWt a o q r k) (i + 1))), (5, .int (nI (i + 1)))]; rw [eb_0]; exact lv_sub hl [2, 3, 4, 5, 1, 0] rfl)
          · have c_5 : (xFor a o q i) = true := bI_1 c_5
            refine lv_iconst (v := 1) hx hb dX2_manyWith_46 (by decide) ?_
            refine lv_goto (tgt := 51) hx hb dX2_manyWith_47 (by decide) ?_
            refine lv_iadd hx hb dX2_manyWith_51 ?_
            refine lv_istore (lv' := [(4, .int ((xCnt (xWt a o q r k) i) + 1)), (0, .ref hM), (1, .int q), (2, .int r), (3, .int k), (5, .int (nI i))]) hx hb dX2_manyWith_52 hl (by decide) rfl (fun ls hl => ?_)
            refine lv_iinc (v := (nI (i + 1))) (lv' := [(5, .int (nI (i + 1))), (4, .int ((xCnt (xWt a o q r k) i) + 1)), (0, .ref hM), (1, .int q), (2, .int r), (3, .int k)]) hx hb dX2_manyWith_54 hl (k := 5) rfl (nI_1 i) (by decide) rfl (fun ls hl => ?_)
            refine lv_goto (tgt := 6) hx hb dX2_manyWith_57 (by decide) ?_
            have eb_0 : (xCnt (xWt a o q r k) (i + 1)) = ((xCnt (xWt a o q r k) i) + 1) := by (first | rfl | (simp only [bI, xCnt, xWt, c_2, c_3, c_4, c_5, eq_self, ↓reduceIte]; done) | (simp only [bI, xCnt, xWt, c_2, c_3, c_4, c_5, eq_self, ↓reduceIte]; rfl) | (simp only [bI, xCnt, xWt, c_2, c_3, eq_true c_4, c_5, eq_self, ↓reduceIte]; done) | (simp only [bI, xCnt, xWt, c_2, c_3, eq_true c_4, c_5, eq_self, ↓reduceIte]; rfl) | (simp [bI, xCnt, xWt, c_2, c_3, eq_true c_4, c_5]; done) | simp [bI, xCnt, xWt, c_2, c_3, c_4, c_5])
            exact ih_i (by omega) trivial ls (by show lv_has ls 6 [(0, .ref hM), (1, .int q), (2, .int r), (3, .int k), (4, .int (xCnt (xWt a o q r k) (i + 1))), (5, .int (nI (i + 1)))]; rw [eb_0]; exact lv_sub hl [2, 3, 4, 5, 1, 0] rfl)
  · show lv_has ls 6 [(0, .ref hM), (1, .int q), (2, .int r), (3, .int k), (4, .int (xCnt (xWt a o q r k) 0)), (5, .int (nI 0))]
    have en_0 : (xCnt (xWt a o q r k) 0) = 0 := by rfl
    rw [en_0]
    have en_1 : (nI 0) = 0 := by exact nI_0
    rw [en_1]
    exact lv_sub hl [2, 3, 4, 5, 1, 0] rfl

theorem in_X2_worlds_X2 : ∀ w ∈ wsX20, w ∈ wsX2_worlds := by decide +kernel
set_option maxHeartbeats 2000000 in
set_option maxRecDepth 100000 in
theorem c_X2_worlds (l : Launch) (D : va_G) (cI cZ cJ : ClassId) (sz : Nat) (hM : Nat) (hO : Nat) (hW : Nat) (hY : Nat) (th : Int32) (a : Nat → Int32) (o : Nat → Bool) (q : Int32) (hk : kAs a q = 0) : Mi l D cI cZ cJ yX2_worlds wsX2_worlds 4 89 sz [.ref hM, .int q] [cM hM hO hW hY th a, cA cZ hO 16384 (fun w => bI (o w))] [cM hM hO hW hY (kAs a q) a, cA cZ hO 16384 (fun w => bI (o w))] (xCnt (xFor a o q) 16384) := by
  refine mi_of (by decide) rfl (Nat.le_of_ble_eq_true rfl) (fun p e s m below meth c ls A hx hb hr hml hts hown hlocks hin hP hK hN hD hA hS hl => ?_)
  have hl : lv_has ls 2 [(0, .ref hM), (1, .int q)] := hl
  refine lv_aload_n hx hb dX2_worlds_0 rfl (lv_at hl 0 rfl) ?_
  refine lv_iload_n hx hb dX2_worlds_1 rfl (lv_at hl 1 rfl) ?_
  refine mi_V (b := hM) (As := [.int q]) (rest := []) (W2 := [cM hM hO hW hY (kAs a q) a, cA cZ hO 16384 (fun w => bI (o w))]) ⟨hx, hb, hml, hown, hts⟩ (c_X2_asks l D cI cZ cJ _ hM hO hW hY th a q) (cwV 1 hts gX2_worlds_X2_asks rfl rfl rfl (by decide +kernel) ⟨Nat.le_of_ble_eq_true rfl, Nat.le_of_ble_eq_true rfl⟩) hP hD hK hN hS hA (va_recv hK hP (ci := 2) (q0 := 0) rfl rfl) rfl hl.1 rfl (Nat.le_of_ble_eq_true rfl) dX2_worlds_2 ⟨Nat.le_of_ble_eq_true rfl, Nat.le_of_ble_eq_true rfl⟩ [0] [1] rfl rfl rfl (by intro i hi; simp only [List.mem_cons, List.not_mem_nil, or_false] at hi; rcases hi with rfl <;> rfl) rfl 2 rfl (by decide) (by decide) (fun H locs hP hD hS => ?_)
  refine lv_if_eq (tgt := 16) hx hb dX2_worlds_5 (by decide) (fun c_1 => ?_) (fun c_1 => ?_)
  · have c_1 : (decide (kAs a q = 0)) = false := bI_0 c_1
    simp [hk] at c_1
  · have c_1 : (decide (kAs a q = 0)) = true := bI_1 c_1
    refine lv_aload_n hx hb dX2_worlds_8 rfl (lv_at hl 0 rfl) ?_
    refine lv_iload_n hx hb dX2_worlds_9 rfl (lv_at hl 1 rfl) ?_
    refine rd_V (b := hM) (As := [.int q]) (rest := []) ⟨hx, hb, hml, hown, hts⟩ (c_X2_manyFor l D cI cZ cJ hM hO hW hY (kAs a q) a o q) (cwV 1 hts gX2_worlds_X2_manyFor rfl rfl rfl (by decide +kernel) ⟨Nat.le_of_ble_eq_true rfl, Nat.le_of_ble_eq_true rfl⟩) (hP.sub (ws' := [cM hM hO hW hY (kAs a q) a, cA cZ hO 16384 (fun w => bI (o w))]) [0, 1] rfl) hK hN (va_recv hK hP (ci := 2) (q0 := 0) rfl rfl) rfl hl.1 rfl (Nat.le_of_ble_eq_true rfl) dX2_worlds_10 ⟨Nat.le_of_ble_eq_true rfl, Nat.le_of_ble_eq_true rfl⟩ ?_
    refine lv_goto (tgt := 17) hx hb dX2_worlds_13 (by decide) ?_
    have hP9 : va_P D vwCl [cM hM hO hW hY (kAs a q) a, cA cZ hO 16384 (fun w => bI (o w))] H := by
      exact hP
    exact mi_iret hx hb hr hlocks hS (by rfl) hP9 dX2_worlds_17

set_option maxHeartbeats 2000000 in
set_option maxRecDepth 100000 in
theorem f_X2_worlds (l : Launch) (D : va_G) (cI cZ cJ : ClassId) (sz : Nat) (hM : Nat) (hO : Nat) (hW : Nat) (hY : Nat) (th : Int32) (a : Nat → Int32) (q : Int32) (hk : ¬ kAs a q = 0) : Mi l D cI cZ cJ yX2_worlds wsX2_worlds 4 85 sz [.ref hM, .int q] [cM hM hO hW hY th a] [cM hM hO hW hY (kAs a q) a] (0) := by
  refine mi_of (by decide) rfl (Nat.le_of_ble_eq_true rfl) (fun p e s m below meth c ls A hx hb hr hml hts hown hlocks hin hP hK hN hD hA hS hl => ?_)
  have hl : lv_has ls 2 [(0, .ref hM), (1, .int q)] := hl
  refine lv_aload_n hx hb dX2_worlds_0 rfl (lv_at hl 0 rfl) ?_
  refine lv_iload_n hx hb dX2_worlds_1 rfl (lv_at hl 1 rfl) ?_
  refine mi_V (b := hM) (As := [.int q]) (rest := []) (W2 := [cM hM hO hW hY (kAs a q) a]) ⟨hx, hb, hml, hown, hts⟩ (c_X2_asks l D cI cZ cJ _ hM hO hW hY th a q) (cwV 1 hts gX2_worlds_X2_asks rfl rfl rfl (by decide +kernel) ⟨Nat.le_of_ble_eq_true rfl, Nat.le_of_ble_eq_true rfl⟩) hP hD hK hN hS hA (va_recv hK hP (ci := 2) (q0 := 0) rfl rfl) rfl hl.1 rfl (Nat.le_of_ble_eq_true rfl) dX2_worlds_2 ⟨Nat.le_of_ble_eq_true rfl, Nat.le_of_ble_eq_true rfl⟩ [0] [] rfl rfl rfl (fun i hi => nomatch hi) rfl 1 rfl (by decide) (by decide) (fun H locs hP hD hS => ?_)
  refine lv_if_eq (tgt := 16) hx hb dX2_worlds_5 (by decide) (fun c_1 => ?_) (fun c_1 => ?_)
  · have c_1 : (decide (kAs a q = 0)) = false := bI_0 c_1
    refine lv_iconst (v := 0) hx hb dX2_worlds_16 (by decide) ?_
    have hP9 : va_P D vwCl [cM hM hO hW hY (kAs a q) a] H := by
      exact hP
    exact mi_iret hx hb hr hlocks hS (by rfl) hP9 dX2_worlds_17
  · have c_1 : (decide (kAs a q = 0)) = true := bI_1 c_1
    simp [hk] at c_1

theorem in_X2_worldsWith_X2 : ∀ w ∈ wsX20, w ∈ wsX2_worldsWith := by decide +kernel
set_option maxHeartbeats 2000000 in
set_option maxRecDepth 100000 in
theorem c_X2_worldsWith (l : Launch) (D : va_G) (cI cZ cJ : ClassId) (sz : Nat) (hM : Nat) (hO : Nat) (hW : Nat) (hY : Nat) (th : Int32) (a : Nat → Int32) (o : Nat → Bool) (q : Int32) (r : Int32) (k : Int32) (hk : kWw a q r k = 0) : Mi l D cI cZ cJ yX2_worldsWith wsX2_worldsWith 4 91 sz [.ref hM, .int q, .int r, .int k] [cM hM hO hW hY th a, cA cZ hO 16384 (fun w => bI (o w))] [cM hM hO hW hY 0 a, cA cZ hO 16384 (fun w => bI (o w))] (xCnt (xWt a o q r k) 16384) := by
  refine mi_of (by decide) rfl (Nat.le_of_ble_eq_true rfl) (fun p e s m below meth c ls A hx hb hr hml hts hown hlocks hin hP hK hN hD hA hS hl => ?_)
  have hl : lv_has ls 4 [(0, .ref hM), (1, .int q), (2, .int r), (3, .int k)] := hl
  refine lv_aload_n hx hb dX2_worldsWith_0 rfl (lv_at hl 0 rfl) ?_
  refine lv_aload_n hx hb dX2_worldsWith_1 rfl (lv_at hl 0 rfl) ?_
  refine va_get (D := D) (cl := vwCl) (ci := 2) (v := .int (a 0)) (C := RX2) (T := TX2) (N := 16) hx hb hts in_X2_worldsWith_X2 hown hK hP 0 rfl rfl 1 (by decide) (hts (.fieldLink RX2 70 "WitchTrialModel" "phase" "I") (List.mem_of_getElem? (i := 1) rfl)) (fun _ h9 => h9) rfl dX2_worldsWith_2 ?_
  refine lv_if_ne (tgt := 12) hx hb dX2_worldsWith_5 (by decide) (fun c_1 => ?_) (fun c_1 => ?_)
  · refine lv_aload_n hx hb dX2_worldsWith_12 rfl (lv_at hl 0 rfl) ?_
    refine lv_iload_n hx hb dX2_worldsWith_13 rfl (lv_at hl 1 rfl) ?_
    refine rd_V (b := hM) (As := [.int q]) (rest := [.ref hM]) ⟨hx, hb, hml, hown, hts⟩ (c_X2_isViewer l D cI cZ cJ hM hO hW hY th a q) (cwV 1 hts gX2_worldsWith_X2_isViewer rfl rfl rfl (by decide +kernel) ⟨Nat.le_of_ble_eq_true rfl, Nat.le_of_ble_eq_true rfl⟩) (hP.sub (ws' := [cM hM hO hW hY th a]) [0] rfl) hK hN (va_recv hK hP (ci := 2) (q0 := 0) rfl rfl) rfl hl.1 rfl (Nat.le_of_ble_eq_true rfl) dX2_worldsWith_14 ⟨Nat.le_of_ble_eq_true rfl, Nat.le_of_ble_eq_true rfl⟩ ?_
    refine lv_if_eq (tgt := 28) hx hb dX2_worldsWith_17 (by decide) (fun c_2 => ?_) (fun c_2 => ?_)
    · have c_2 : (xVw a q) = false := bI_0 c_2
      refine lv_iconst (v := 2) hx hb dX2_worldsWith_28 (by decide) ?_
      refine lv_goto (tgt := 46) hx hb dX2_worldsWith_29 (by decide) ?_
      refine va_put (D := D) (cl := vwCl) (ci := 2) (v := .int 2) (ty := .int) (C := RX2) (T := TX2) (N := 16) hx hb hts in_X2_worldsWith_X2 tyX2 tyX2_ok nmX2 hown hK hP hD hS 0 rfl rfl 0 (by decide) (hts (.fieldLink RX2 20 "WitchTrialModel" "thrown" "I") (List.mem_of_getElem? (i := 2) rfl)) (fun _ h9 => h9) rfl (by decide +kernel) rfl rfl (Nat.le_of_ble_eq_true rfl) dX2_worldsWith_46 (fun H locs hP hD hS => ?_)
      have hP : va_P D vwCl [cM hM hO hW hY 2 a, cA cZ hO 16384 (fun w => bI (o w))] H := hP
      have hD : va_D A [cM hM hO hW hY 2 a, cA cZ hO 16384 (fun w => bI (o w))] := hD
      refine lv_aload_n hx hb dX2_worldsWith_49 rfl (lv_at hl 0 rfl) ?_
      refine va_get (D := D) (cl := vwCl) (ci := 2) (v := .int 2) (C := RX2) (T := TX2) (N := 16) hx hb hts in_X2_worldsWith_X2 hown hK hP 0 rfl rfl 0 (by decide) (hts (.fieldLink RX2 20 "WitchTrialModel" "thrown" "I") (List.mem_of_getElem? (i := 2) rfl)) (fun _ h9 => h9) rfl dX2_worldsWith_50 ?_
      refine lv_if_le (tgt := 60) hx hb dX2_worldsWith_53 (by decide) (fun c_3 => ?_) (fun c_3 => ?_)
      · exact absurd c_3 (by decide)
      · exact absurd hk (by simp [kWw, bI, c_1, c_2])
    · have c_2 : (xVw a q) = true := bI_1 c_2
      refine lv_aload_n hx hb dX2_worldsWith_20 rfl (lv_at hl 0 rfl) ?_
      refine lv_iload_n hx hb dX2_worldsWith_21 rfl (lv_at hl 2 rfl) ?_
      refine rd_V (b := hM) (As := [.int r]) (rest := [.ref hM]) ⟨hx, hb, hml, hown, hts⟩ (c_X2_isPlayer l D cI cZ cJ hM hO hW hY th a r) (cwV 1 hts gX2_worldsWith_X2_isPlayer rfl rfl rfl (by decide +kernel) ⟨Nat.le_of_ble_eq_true rfl, Nat.le_of_ble_eq_true rfl⟩) (hP.sub (ws' := [cM hM hO hW hY th a]) [0] rfl) hK hN (va_recv hK hP (ci := 2) (q0 := 0) rfl rfl) rfl hl.1 rfl (Nat.le_of_ble_eq_true rfl) dX2_worldsWith_22 ⟨Nat.le_of_ble_eq_true rfl, Nat.le_of_ble_eq_true rfl⟩ ?_
      refine lv_if_ne (tgt := 32) hx hb dX2_worldsWith_25 (by decide) (fun c_4 => ?_) (fun c_4 => ?_)
      · have c_4 : (xPl a r) = true := bI_1 c_4
        refine lv_iload_n hx hb dX2_worldsWith_32 rfl (lv_at hl 3 rfl) ?_
        refine lv_iconst (v := 0) hx hb dX2_worldsWith_33 (by decide) ?_
        refine lv_iconst (v := 3) hx hb dX2_worldsWith_34 (by decide) ?_
        refine rd_S (As := [.int k, .int 0, .int 3]) (rest := [.ref hM]) ⟨hx, hb, hml, hown, hts⟩ (c_X2_in l D cI cZ cJ k 0 3) (va_cwS 3 hts gX2_worldsWith_X2_in rfl rfl rfl (by decide +kernel) ⟨Nat.le_of_ble_eq_true rfl, Nat.le_of_ble_eq_true rfl⟩) (hP.sub (ws' := []) [] rfl) hK hN rfl hl.1 rfl (Nat.le_of_ble_eq_true rfl) dX2_worldsWith_35 ⟨Nat.le_of_ble_eq_true rfl, Nat.le_of_ble_eq_true rfl⟩ ?_
        refine lv_if_eq (tgt := 45) hx hb dX2_worldsWith_38 (by decide) (fun c_5 => ?_) (fun c_5 => ?_)
        · have c_5 : (xIn k 0 3) = false := bI_0 c_5
          refine lv_iconst (v := 3) hx hb dX2_worldsWith_45 (by decide) ?_
          refine va_put (D := D) (cl := vwCl) (ci := 2) (v := .int 3) (ty := .int) (C := RX2) (T := TX2) (N := 16) hx hb hts in_X2_worldsWith_X2 tyX2 tyX2_ok nmX2 hown hK hP hD hS 0 rfl rfl 0 (by decide) (hts (.fieldLink RX2 20 "WitchTrialModel" "thrown" "I") (List.mem_of_getElem? (i := 2) rfl)) (fun _ h9 => h9) rfl (by decide +kernel) rfl rfl (Nat.le_of_ble_eq_true rfl) dX2_worldsWith_46 (fun H locs hP hD hS => ?_)
          have hP : va_P D vwCl [cM hM hO hW hY 3 a, cA cZ hO 16384 (fun w => bI (o w))] H := hP
          have hD : va_D A [cM hM hO hW hY 3 a, cA cZ hO 16384 (fun w => bI (o w))] := hD
          refine lv_aload_n hx hb dX2_worldsWith_49 rfl (lv_at hl 0 rfl) ?_
          refine va_get (D := D) (cl := vwCl) (ci := 2) (v := .int 3) (C := RX2) (T := TX2) (N := 16) hx hb hts in_X2_worldsWith_X2 hown hK hP 0 rfl rfl 0 (by decide) (hts (.fieldLink RX2 20 "WitchTrialModel" "thrown" "I") (List.mem_of_getElem? (i := 2) rfl)) (fun _ h9 => h9) rfl dX2_worldsWith_50 ?_
          refine lv_if_le (tgt := 60) hx hb dX2_worldsWith_53 (by decide) (fun c_6 => ?_) (fun c_6 => ?_)
          · exact absurd c_6 (by decide)
          · exact absurd hk (by simp [kWw, bI, c_1, c_2, c_4, c_5])
        · have c_5 : (xIn k 0 3) = true := bI_1 c_5
          refine lv_iconst (v := 0) hx hb dX2_worldsWith_41 (by decide) ?_
          refine lv_goto (tgt := 46) hx hb dX2_worldsWith_42 (by decide) ?_
          refine va_put (D := D) (cl := vwCl) (ci := 2) (v := .int 0) (ty := .int) (C := RX2) (T := TX2) (N := 16) hx hb hts in_X2_worldsWith_X2 tyX2 tyX2_ok nmX2 hown hK hP hD hS 0 rfl rfl 0 (by decide) (hts (.fieldLink RX2 20 "WitchTrialModel" "thrown" "I") (List.mem_of_getElem? (i := 2) rfl)) (fun _ h9 => h9) rfl (by decide +kernel) rfl rfl (Nat.le_of_ble_eq_true rfl) dX2_worldsWith_46 (fun H locs hP hD hS => ?_)
          have hP : va_P D vwCl [cM hM hO hW hY 0 a, cA cZ hO 16384 (fun w => bI (o w))] H := hP
          have hD : va_D A [cM hM hO hW hY 0 a, cA cZ hO 16384 (fun w => bI (o w))] := hD
          refine lv_aload_n hx hb dX2_worldsWith_49 rfl (lv_at hl 0 rfl) ?_
          refine va_get (D := D) (cl := vwCl) (ci := 2) (v := .int 0) (C := RX2) (T := TX2) (N := 16) hx hb hts in_X2_worldsWith_X2 hown hK hP 0 rfl rfl 0 (by decide) (hts (.fieldLink RX2 20 "WitchTrialModel" "thrown" "I") (List.mem_of_getElem? (i := 2) rfl)) (fun _ h9 => h9) rfl dX2_worldsWith_50 ?_
          refine lv_if_le (tgt := 60) hx hb dX2_worldsWith_53 (by decide) (fun c_7 => ?_) (fun c_7 => ?_)
          · refine lv_aload_n hx hb dX2_worldsWith_60 rfl (lv_at hl 0 rfl) ?_
            refine lv_iload_n hx hb dX2_worldsWith_61 rfl (lv_at hl 1 rfl) ?_
            refine lv_iload_n hx hb dX2_worldsWith_62 rfl (lv_at hl 2 rfl) ?_
            refine lv_iload_n hx hb dX2_worldsWith_63 rfl (lv_at hl 3 rfl) ?_
            refine rd_V (b := hM) (As := [.int q, .int r, .int k]) (rest := []) ⟨hx, hb, hml, hown, hts⟩ (c_X2_manyWith l D cI cZ cJ hM hO hW hY 0 a o q r k) (cwV 3 hts gX2_worldsWith_X2_manyWith rfl rfl rfl (by decide +kernel) ⟨Nat.le_of_ble_eq_true rfl, Nat.le_of_ble_eq_true rfl⟩) (hP.sub (ws' := [cM hM hO hW hY 0 a, cA cZ hO 16384 (fun w => bI (o w))]) [0, 1] rfl) hK hN (va_recv hK hP (ci := 2) (q0 := 0) rfl rfl) rfl hl.1 rfl (Nat.le_of_ble_eq_true rfl) dX2_worldsWith_64 ⟨Nat.le_of_ble_eq_true rfl, Nat.le_of_ble_eq_true rfl⟩ ?_
            have hP9 : va_P D vwCl [cM hM hO hW hY 0 a, cA cZ hO 16384 (fun w => bI (o w))] H := by
              exact hP
            exact mi_iret hx hb hr hlocks hS (by rfl) hP9 dX2_worldsWith_67
          · exact absurd c_7 (by decide)
      · have c_4 : (xPl a r) = false := bI_0 c_4
        refine lv_iconst (v := 2) hx hb dX2_worldsWith_28 (by decide) ?_
        refine lv_goto (tgt := 46) hx hb dX2_worldsWith_29 (by decide) ?_
        refine va_put (D := D) (cl := vwCl) (ci := 2) (v := .int 2) (ty := .int) (C := RX2) (T := TX2) (N := 16) hx hb hts in_X2_worldsWith_X2 tyX2 tyX2_ok nmX2 hown hK hP hD hS 0 rfl rfl 0 (by decide) (hts (.fieldLink RX2 20 "WitchTrialModel" "thrown" "I") (List.mem_of_getElem? (i := 2) rfl)) (fun _ h9 => h9) rfl (by decide +kernel) rfl rfl (Nat.le_of_ble_eq_true rfl) dX2_worldsWith_46 (fun H locs hP hD hS => ?_)
        have hP : va_P D vwCl [cM hM hO hW hY 2 a, cA cZ hO 16384 (fun w => bI (o w))] H := hP
        have hD : va_D A [cM hM hO hW hY 2 a, cA cZ hO 16384 (fun w => bI (o w))] := hD
        refine lv_aload_n hx hb dX2_worldsWith_49 rfl (lv_at hl 0 rfl) ?_
        refine va_get (D := D) (cl := vwCl) (ci := 2) (v := .int 2) (C := RX2) (T := TX2) (N := 16) hx hb hts in_X2_worldsWith_X2 hown hK hP 0 rfl rfl 0 (by decide) (hts (.fieldLink RX2 20 "WitchTrialModel" "thrown" "I") (List.mem_of_getElem? (i := 2) rfl)) (fun _ h9 => h9) rfl dX2_worldsWith_50 ?_
        refine lv_if_le (tgt := 60) hx hb dX2_worldsWith_53 (by decide) (fun c_8 => ?_) (fun c_8 => ?_)
        · exact absurd c_8 (by decide)
        · exact absurd hk (by simp [kWw, bI, c_1, c_2, c_4])
  · refine lv_iconst (v := 1) hx hb dX2_worldsWith_8 (by decide) ?_
    refine lv_goto (tgt := 46) hx hb dX2_worldsWith_9 (by decide) ?_
    refine va_put (D := D) (cl := vwCl) (ci := 2) (v := .int 1) (ty := .int) (C := RX2) (T := TX2) (N := 16) hx hb hts in_X2_worldsWith_X2 tyX2 tyX2_ok nmX2 hown hK hP hD hS 0 rfl rfl 0 (by decide) (hts (.fieldLink RX2 20 "WitchTrialModel" "thrown" "I") (List.mem_of_getElem? (i := 2) rfl)) (fun _ h9 => h9) rfl (by decide +kernel) rfl rfl (Nat.le_of_ble_eq_true rfl) dX2_worldsWith_46 (fun H locs hP hD hS => ?_)
    have hP : va_P D vwCl [cM hM hO hW hY 1 a, cA cZ hO 16384 (fun w => bI (o w))] H := hP
    have hD : va_D A [cM hM hO hW hY 1 a, cA cZ hO 16384 (fun w => bI (o w))] := hD
    refine lv_aload_n hx hb dX2_worldsWith_49 rfl (lv_at hl 0 rfl) ?_
    refine va_get (D := D) (cl := vwCl) (ci := 2) (v := .int 1) (C := RX2) (T := TX2) (N := 16) hx hb hts in_X2_worldsWith_X2 hown hK hP 0 rfl rfl 0 (by decide) (hts (.fieldLink RX2 20 "WitchTrialModel" "thrown" "I") (List.mem_of_getElem? (i := 2) rfl)) (fun _ h9 => h9) rfl dX2_worldsWith_50 ?_
    refine lv_if_le (tgt := 60) hx hb dX2_worldsWith_53 (by decide) (fun c_9 => ?_) (fun c_9 => ?_)
    · exact absurd c_9 (by decide)
    · exact absurd hk (by simp [kWw, bI, c_1])

set_option maxHeartbeats 2000000 in
set_option maxRecDepth 100000 in
theorem f_X2_worldsWith (l : Launch) (D : va_G) (cI cZ cJ : ClassId) (sz : Nat) (hM : Nat) (hO : Nat) (hW : Nat) (hY : Nat) (th : Int32) (a : Nat → Int32) (q : Int32) (r : Int32) (k : Int32) (hk : ¬ kWw a q r k = 0) : Mi l D cI cZ cJ yX2_worldsWith wsX2_worldsWith 3 64 sz [.ref hM, .int q, .int r, .int k] [cM hM hO hW hY th a] [cM hM hO hW hY (kWw a q r k) a] (0) := by
  refine mi_of (by decide) rfl (Nat.le_of_ble_eq_true rfl) (fun p e s m below meth c ls A hx hb hr hml hts hown hlocks hin hP hK hN hD hA hS hl => ?_)
  have hl : lv_has ls 4 [(0, .ref hM), (1, .int q), (2, .int r), (3, .int k)] := hl
  refine lv_aload_n hx hb dX2_worldsWith_0 rfl (lv_at hl 0 rfl) ?_
  refine lv_aload_n hx hb dX2_worldsWith_1 rfl (lv_at hl 0 rfl) ?_
  refine va_get (D := D) (cl := vwCl) (ci := 2) (v := .int (a 0)) (C := RX2) (T := TX2) (N := 16) hx hb hts in_X2_worldsWith_X2 hown hK hP 0 rfl rfl 1 (by decide) (hts (.fieldLink RX2 70 "WitchTrialModel" "phase" "I") (List.mem_of_getElem? (i := 1) rfl)) (fun _ h9 => h9) rfl dX2_worldsWith_2 ?_
  refine lv_if_ne (tgt := 12) hx hb dX2_worldsWith_5 (by decide) (fun c_1 => ?_) (fun c_1 => ?_)
  · refine lv_aload_n hx hb dX2_worldsWith_12 rfl (lv_at hl 0 rfl) ?_
    refine lv_iload_n hx hb dX2_worldsWith_13 rfl (lv_at hl 1 rfl) ?_
    refine rd_V (b := hM) (As := [.int q]) (rest := [.ref hM]) ⟨hx, hb, hml, hown, hts⟩ (c_X2_isViewer l D cI cZ cJ hM hO hW hY th a q) (cwV 1 hts gX2_worldsWith_X2_isViewer rfl rfl rfl (by decide +kernel) ⟨Nat.le_of_ble_eq_true rfl, Nat.le_of_ble_eq_true rfl⟩) (hP.sub (ws' := [cM hM hO hW hY th a]) [0] rfl) hK hN (va_recv hK hP (ci := 2) (q0 := 0) rfl rfl) rfl hl.1 rfl (Nat.le_of_ble_eq_true rfl) dX2_worldsWith_14 ⟨Nat.le_of_ble_eq_true rfl, Nat.le_of_ble_eq_true rfl⟩ ?_
    refine lv_if_eq (tgt := 28) hx hb dX2_worldsWith_17 (by decide) (fun c_2 => ?_) (fun c_2 => ?_)
    · have c_2 : (xVw a q) = false := bI_0 c_2
      refine lv_iconst (v := 2) hx hb dX2_worldsWith_28 (by decide) ?_
      refine lv_goto (tgt := 46) hx hb dX2_worldsWith_29 (by decide) ?_
      refine va_put (D := D) (cl := vwCl) (ci := 2) (v := .int 2) (ty := .int) (C := RX2) (T := TX2) (N := 16) hx hb hts in_X2_worldsWith_X2 tyX2 tyX2_ok nmX2 hown hK hP hD hS 0 rfl rfl 0 (by decide) (hts (.fieldLink RX2 20 "WitchTrialModel" "thrown" "I") (List.mem_of_getElem? (i := 2) rfl)) (fun _ h9 => h9) rfl (by decide +kernel) rfl rfl (Nat.le_of_ble_eq_true rfl) dX2_worldsWith_46 (fun H locs hP hD hS => ?_)
      have hP : va_P D vwCl [cM hM hO hW hY 2 a] H := hP
      have hD : va_D A [cM hM hO hW hY 2 a] := hD
      refine lv_aload_n hx hb dX2_worldsWith_49 rfl (lv_at hl 0 rfl) ?_
      refine va_get (D := D) (cl := vwCl) (ci := 2) (v := .int 2) (C := RX2) (T := TX2) (N := 16) hx hb hts in_X2_worldsWith_X2 hown hK hP 0 rfl rfl 0 (by decide) (hts (.fieldLink RX2 20 "WitchTrialModel" "thrown" "I") (List.mem_of_getElem? (i := 2) rfl)) (fun _ h9 => h9) rfl dX2_worldsWith_50 ?_
      refine lv_if_le (tgt := 60) hx hb dX2_worldsWith_53 (by decide) (fun c_3 => ?_) (fun c_3 => ?_)
      · exact absurd c_3 (by decide)
      · refine lv_iconst (v := 0) hx hb dX2_worldsWith_56 (by decide) ?_
        refine lv_goto (tgt := 67) hx hb dX2_worldsWith_57 (by decide) ?_
        have hP9 : va_P D vwCl [cM hM hO hW hY (kWw a q r k) a] H := by
          have e9_0 : (kWw a q r k) = 2 := by (first | rfl | (simp only [kWw, bI, c_1, c_2, eq_self, ↓reduceIte]; done) | (simp only [kWw, bI, c_1, c_2, eq_self, ↓reduceIte]; rfl) | simp [kWw, bI, c_1, c_2])
          rw [e9_0]
          exact hP
        exact mi_iret hx hb hr hlocks hS (by rfl) hP9 dX2_worldsWith_67
    · have c_2 : (xVw a q) = true := bI_1 c_2
      refine lv_aload_n hx hb dX2_worldsWith_20 rfl (lv_at hl 0 rfl) ?_
      refine lv_iload_n hx hb dX2_worldsWith_21 rfl (lv_at hl 2 rfl) ?_
      refine rd_V (b := hM) (As := [.int r]) (rest := [.ref hM]) ⟨hx, hb, hml, hown, hts⟩ (c_X2_isPlayer l D cI cZ cJ hM hO hW hY th a r) (cwV 1 hts gX2_worldsWith_X2_isPlayer rfl rfl rfl (by decide +kernel) ⟨Nat.le_of_ble_eq_true rfl, Nat.le_of_ble_eq_true rfl⟩) (hP.sub (ws' := [cM hM hO hW hY th a]) [0] rfl) hK hN (va_recv hK hP (ci := 2) (q0 := 0) rfl rfl) rfl hl.1 rfl (Nat.le_of_ble_eq_true rfl) dX2_worldsWith_22 ⟨Nat.le_of_ble_eq_true rfl, Nat.le_of_ble_eq_true rfl⟩ ?_
      refine lv_if_ne (tgt := 32) hx hb dX2_worldsWith_25 (by decide) (fun c_4 => ?_) (fun c_4 => ?_)
      · have c_4 : (xPl a r) = true := bI_1 c_4
        refine lv_iload_n hx hb dX2_worldsWith_32 rfl (lv_at hl 3 rfl) ?_
        refine lv_iconst (v := 0) hx hb dX2_worldsWith_33 (by decide) ?_
        refine lv_iconst (v := 3) hx hb dX2_worldsWith_34 (by decide) ?_
        refine rd_S (As := [.int k, .int 0, .int 3]) (rest := [.ref hM]) ⟨hx, hb, hml, hown, hts⟩ (c_X2_in l D cI cZ cJ k 0 3) (va_cwS 3 hts gX2_worldsWith_X2_in rfl rfl rfl (by decide +kernel) ⟨Nat.le_of_ble_eq_true rfl, Nat.le_of_ble_eq_true rfl⟩) (hP.sub (ws' := []) [] rfl) hK hN rfl hl.1 rfl (Nat.le_of_ble_eq_true rfl) dX2_worldsWith_35 ⟨Nat.le_of_ble_eq_true rfl, Nat.le_of_ble_eq_true rfl⟩ ?_
        refine lv_if_eq (tgt := 45) hx hb dX2_worldsWith_38 (by decide) (fun c_5 => ?_) (fun c_5 => ?_)
        · have c_5 : (xIn k 0 3) = false := bI_0 c_5
          refine lv_iconst (v := 3) hx hb dX2_worldsWith_45 (by decide) ?_
          refine va_put (D := D) (cl := vwCl) (ci := 2) (v := .int 3) (ty := .int) (C := RX2) (T := TX2) (N := 16) hx hb hts in_X2_worldsWith_X2 tyX2 tyX2_ok nmX2 hown hK hP hD hS 0 rfl rfl 0 (by decide) (hts (.fieldLink RX2 20 "WitchTrialModel" "thrown" "I") (List.mem_of_getElem? (i := 2) rfl)) (fun _ h9 => h9) rfl (by decide +kernel) rfl rfl (Nat.le_of_ble_eq_true rfl) dX2_worldsWith_46 (fun H locs hP hD hS => ?_)
          have hP : va_P D vwCl [cM hM hO hW hY 3 a] H := hP
          have hD : va_D A [cM hM hO hW hY 3 a] := hD
          refine lv_aload_n hx hb dX2_worldsWith_49 rfl (lv_at hl 0 rfl) ?_
          refine va_get (D := D) (cl := vwCl) (ci := 2) (v := .int 3) (C := RX2) (T := TX2) (N := 16) hx hb hts in_X2_worldsWith_X2 hown hK hP 0 rfl rfl 0 (by decide) (hts (.fieldLink RX2 20 "WitchTrialModel" "thrown" "I") (List.mem_of_getElem? (i := 2) rfl)) (fun _ h9 => h9) rfl dX2_worldsWith_50 ?_
          refine lv_if_le (tgt := 60) hx hb dX2_worldsWith_53 (by decide) (fun c_6 => ?_) (fun c_6 => ?_)
          · exact absurd c_6 (by decide)
          · refine lv_iconst (v := 0) hx hb dX2_worldsWith_56 (by decide) ?_
            refine lv_goto (tgt := 67) hx hb dX2_worldsWith_57 (by decide) ?_
            have hP9 : va_P D vwCl [cM hM hO hW hY (kWw a q r k) a] H := by
              have e9_0 : (kWw a q r k) = 3 := by (first | rfl | (simp only [kWw, bI, c_1, c_2, c_4, c_5, eq_self, ↓reduceIte]; done) | (simp only [kWw, bI, c_1, c_2, c_4, c_5, eq_self, ↓reduceIte]; rfl) | simp [kWw, bI, c_1, c_2, c_4, c_5])
              rw [e9_0]
              exact hP
            exact mi_iret hx hb hr hlocks hS (by rfl) hP9 dX2_worldsWith_67
        · have c_5 : (xIn k 0 3) = true := bI_1 c_5
          refine lv_iconst (v := 0) hx hb dX2_worldsWith_41 (by decide) ?_
          refine lv_goto (tgt := 46) hx hb dX2_worldsWith_42 (by decide) ?_
          refine va_put (D := D) (cl := vwCl) (ci := 2) (v := .int 0) (ty := .int) (C := RX2) (T := TX2) (N := 16) hx hb hts in_X2_worldsWith_X2 tyX2 tyX2_ok nmX2 hown hK hP hD hS 0 rfl rfl 0 (by decide) (hts (.fieldLink RX2 20 "WitchTrialModel" "thrown" "I") (List.mem_of_getElem? (i := 2) rfl)) (fun _ h9 => h9) rfl (by decide +kernel) rfl rfl (Nat.le_of_ble_eq_true rfl) dX2_worldsWith_46 (fun H locs hP hD hS => ?_)
          have hP : va_P D vwCl [cM hM hO hW hY 0 a] H := hP
          have hD : va_D A [cM hM hO hW hY 0 a] := hD
          refine lv_aload_n hx hb dX2_worldsWith_49 rfl (lv_at hl 0 rfl) ?_
          refine va_get (D := D) (cl := vwCl) (ci := 2) (v := .int 0) (C := RX2) (T := TX2) (N := 16) hx hb hts in_X2_worldsWith_X2 hown hK hP 0 rfl rfl 0 (by decide) (hts (.fieldLink RX2 20 "WitchTrialModel" "thrown" "I") (List.mem_of_getElem? (i := 2) rfl)) (fun _ h9 => h9) rfl dX2_worldsWith_50 ?_
          refine lv_if_le (tgt := 60) hx hb dX2_worldsWith_53 (by decide) (fun c_7 => ?_) (fun c_7 => ?_)
          · exact absurd hk (by simp [kWw, bI, c_1, c_2, c_4, c_5])
          · exact absurd c_7 (by decide)
      · have c_4 : (xPl a r) = false := bI_0 c_4
        refine lv_iconst (v := 2) hx hb dX2_worldsWith_28 (by decide) ?_
        refine lv_goto (tgt := 46) hx hb dX2_worldsWith_29 (by decide) ?_
        refine va_put (D := D) (cl := vwCl) (ci := 2) (v := .int 2) (ty := .int) (C := RX2) (T := TX2) (N := 16) hx hb hts in_X2_worldsWith_X2 tyX2 tyX2_ok nmX2 hown hK hP hD hS 0 rfl rfl 0 (by decide) (hts (.fieldLink RX2 20 "WitchTrialModel" "thrown" "I") (List.mem_of_getElem? (i := 2) rfl)) (fun _ h9 => h9) rfl (by decide +kernel) rfl rfl (Nat.le_of_ble_eq_true rfl) dX2_worldsWith_46 (fun H locs hP hD hS => ?_)
        have hP : va_P D vwCl [cM hM hO hW hY 2 a] H := hP
        have hD : va_D A [cM hM hO hW hY 2 a] := hD
        refine lv_aload_n hx hb dX2_worldsWith_49 rfl (lv_at hl 0 rfl) ?_
        refine va_get (D := D) (cl := vwCl) (ci := 2) (v := .int 2) (C := RX2) (T := TX2) (N := 16) hx hb hts in_X2_worldsWith_X2 hown hK hP 0 rfl rfl 0 (by decide) (hts (.fieldLink RX2 20 "WitchTrialModel" "thrown" "I") (List.mem_of_getElem? (i := 2) rfl)) (fun _ h9 => h9) rfl dX2_worldsWith_50 ?_
        refine lv_if_le (tgt := 60) hx hb dX2_worldsWith_53 (by decide) (fun c_8 => ?_) (fun c_8 => ?_)
        · exact absurd c_8 (by decide)
        · refine lv_iconst (v := 0) hx hb dX2_worldsWith_56 (by decide) ?_
          refine lv_goto (tgt := 67) hx hb dX2_worldsWith_57 (by decide) ?_
          have hP9 : va_P D vwCl [cM hM hO hW hY (kWw a q r k) a] H := by
            have e9_0 : (kWw a q r k) = 2 := by (first | rfl | (simp only [kWw, bI, c_1, c_2, c_4, eq_self, ↓reduceIte]; done) | (simp only [kWw, bI, c_1, c_2, c_4, eq_self, ↓reduceIte]; rfl) | simp [kWw, bI, c_1, c_2, c_4])
            rw [e9_0]
            exact hP
          exact mi_iret hx hb hr hlocks hS (by rfl) hP9 dX2_worldsWith_67
  · refine lv_iconst (v := 1) hx hb dX2_worldsWith_8 (by decide) ?_
    refine lv_goto (tgt := 46) hx hb dX2_worldsWith_9 (by decide) ?_
    refine va_put (D := D) (cl := vwCl) (ci := 2) (v := .int 1) (ty := .int) (C := RX2) (T := TX2) (N := 16) hx hb hts in_X2_worldsWith_X2 tyX2 tyX2_ok nmX2 hown hK hP hD hS 0 rfl rfl 0 (by decide) (hts (.fieldLink RX2 20 "WitchTrialModel" "thrown" "I") (List.mem_of_getElem? (i := 2) rfl)) (fun _ h9 => h9) rfl (by decide +kernel) rfl rfl (Nat.le_of_ble_eq_true rfl) dX2_worldsWith_46 (fun H locs hP hD hS => ?_)
    have hP : va_P D vwCl [cM hM hO hW hY 1 a] H := hP
    have hD : va_D A [cM hM hO hW hY 1 a] := hD
    refine lv_aload_n hx hb dX2_worldsWith_49 rfl (lv_at hl 0 rfl) ?_
    refine va_get (D := D) (cl := vwCl) (ci := 2) (v := .int 1) (C := RX2) (T := TX2) (N := 16) hx hb hts in_X2_worldsWith_X2 hown hK hP 0 rfl rfl 0 (by decide) (hts (.fieldLink RX2 20 "WitchTrialModel" "thrown" "I") (List.mem_of_getElem? (i := 2) rfl)) (fun _ h9 => h9) rfl dX2_worldsWith_50 ?_
    refine lv_if_le (tgt := 60) hx hb dX2_worldsWith_53 (by decide) (fun c_9 => ?_) (fun c_9 => ?_)
    · exact absurd c_9 (by decide)
    · refine lv_iconst (v := 0) hx hb dX2_worldsWith_56 (by decide) ?_
      refine lv_goto (tgt := 67) hx hb dX2_worldsWith_57 (by decide) ?_
      have hP9 : va_P D vwCl [cM hM hO hW hY (kWw a q r k) a] H := by
        have e9_0 : (kWw a q r k) = 1 := by (first | rfl | (simp only [kWw, bI, c_1, eq_self, ↓reduceIte]; done) | (simp only [kWw, bI, c_1, eq_self, ↓reduceIte]; rfl) | (simp only [kWw, bI, eq_true c_1, eq_self, ↓reduceIte]; done) | (simp only [kWw, bI, eq_true c_1, eq_self, ↓reduceIte]; rfl) | (simp [kWw, bI, eq_true c_1]; done) | simp [kWw, bI, c_1])
        rw [e9_0]
        exact hP
      exact mi_iret hx hb hr hlocks hS (by rfl) hP9 dX2_worldsWith_67

theorem in_X2_inSome_X2 : ∀ w ∈ wsX20, w ∈ wsX2_inSome := by decide +kernel
set_option maxHeartbeats 2000000 in
set_option maxRecDepth 100000 in
theorem c_X2_inSome (l : Launch) (D : va_G) (cI cZ cJ : ClassId) (hM : Nat) (hO : Nat) (hW : Nat) (hY : Nat) (th : Int32) (a : Nat → Int32) (o : Nat → Bool) (q : Int32) (b : Bool)  : Rd l D cI cZ cJ yX2_inSome wsX2_inSome 3 66 [.ref hM, .int q, .int (bI b)] [cM hM hO hW hY th a, cA cZ hO 16384 (fun w => bI (o w))] (xSm a o q b 16384 &&& xAll (a 2)) := by
  refine rd_of (by decide) rfl (Nat.le_of_ble_eq_true rfl) (fun p e s m below meth c ls hx hb hr hml hts hown hlocks hP hK hN hl => ?_)
  have hl : lv_has ls 5 [(0, .ref hM), (1, .int q), (2, .int (bI b))] := hl
  refine lv_iconst (v := 0) hx hb dX2_inSome_0 (by decide) ?_
  refine lv_istore_n (lv' := [(3, .int 0), (0, .ref hM), (1, .int q), (2, .int (bI b))]) hx hb dX2_inSome_1 rfl hl (by decide) rfl (fun ls hl => ?_)
  refine lv_iconst (v := 0) hx hb dX2_inSome_2 (by decide) ?_
  refine lv_istore (lv' := [(4, .int 0), (3, .int 0), (0, .ref hM), (1, .int q), (2, .int (bI b))]) hx hb dX2_inSome_3 hl (by decide) rfl (fun ls hl => ?_)
  refine loop_R (nL := 5) (h := 5) 16384 (fun i => [(0, .ref hM), (1, .int q), (2, .int (bI b)), (3, .int (xSm a o q b i)), (4, .int (nI i))]) (fun _ => True) (fun i hi hI ih_i ls hl => ?_) 0 (by omega) trivial ls ?_
  · have hl : lv_has ls 5 [(0, .ref hM), (1, .int q), (2, .int (bI b)), (3, .int (xSm a o q b i)), (4, .int (nI i))] := hl
    refine lv_iload hx hb dX2_inSome_5 (lv_at hl 4 rfl) ?_
    refine lv_sipush (v := 16384) hx hb dX2_inSome_7 (by decide) ?_
    refine lv_icmp_ge (tgt := 51) hx hb dX2_inSome_10 (by decide) (fun c_2 => ?_) (fun c_2 => ?_)
    · have hi9 : 16384 = i := (geN hi (by omega) rfl c_2).symm
      subst hi9
      refine lv_iload_n hx hb dX2_inSome_51 rfl (lv_at hl 3 rfl) ?_
      refine lv_iconst (v := 1) hx hb dX2_inSome_52 (by decide) ?_
      refine lv_aload_n hx hb dX2_inSome_53 rfl (lv_at hl 0 rfl) ?_
      refine va_get (D := D) (cl := vwCl) (ci := 2) (v := .int (a 2)) (C := RX2) (T := TX2) (N := 16) hx hb hts in_X2_inSome_X2 hown hK hP 0 rfl rfl 2 (by decide) (hts (.fieldLink RX2 24 "WitchTrialModel" "players" "I") (List.mem_of_getElem? (i := 1) rfl)) (fun _ h9 => h9) rfl dX2_inSome_54 ?_
      refine lv_ishl hx hb dX2_inSome_57 ?_
      refine lv_iconst (v := 1) hx hb dX2_inSome_58 (by decide) ?_
      refine lv_isub hx hb dX2_inSome_59 ?_
      refine lv_iand hx hb dX2_inSome_60 ?_
      exact rd_iret hx hb hr hlocks (by rfl) dX2_inSome_61
    · have hlt : i < 16384 := ltN hi (by omega) rfl c_2
      refine lv_aload_n hx hb dX2_inSome_13 rfl (lv_at hl 0 rfl) ?_
      refine lv_iload_n hx hb dX2_inSome_14 rfl (lv_at hl 1 rfl) ?_
      refine lv_iload hx hb dX2_inSome_15 (lv_at hl 4 rfl) ?_
      refine rd_V (b := hM) (As := [.int q, .int (nI i)]) (rest := []) ⟨hx, hb, hml, hown, hts⟩ (c_X2_isFor l D cI cZ cJ hM hO hW hY th a o q i (by first | assumption | omega)) (cwV 2 hts gX2_inSome_X2_isFor rfl rfl rfl (by decide +kernel) ⟨Nat.le_of_ble_eq_true rfl, Nat.le_of_ble_eq_true rfl⟩) (hP.sub (ws' := [cM hM hO hW hY th a, cA cZ hO 16384 (fun w => bI (o w))]) [0, 1] rfl) hK hN (va_recv hK hP (ci := 2) (q0 := 0) rfl rfl) rfl hl.1 rfl (Nat.le_of_ble_eq_true rfl) dX2_inSome_17 ⟨Nat.le_of_ble_eq_true rfl, Nat.le_of_ble_eq_true rfl⟩ ?_
      refine lv_if_eq (tgt := 45) hx hb dX2_inSome_20 (by decide) (fun c_3 => ?_) (fun c_3 => ?_)
      · have c_3 : (xFor a o q i) = false := bI_0 c_3
        refine lv_iinc (v := (nI (i + 1))) (lv' := [(4, .int (nI (i + 1))), (0, .ref hM), (1, .int q), (2, .int (bI b)), (3, .int (xSm a o q b i))]) hx hb dX2_inSome_45 hl (k := 4) rfl (nI_1 i) (by decide) rfl (fun ls hl => ?_)
        refine lv_goto (tgt := 5) hx hb dX2_inSome_48 (by decide) ?_
        have eb_0 : (xSm a o q b (i + 1)) = (xSm a o q b i) := by (first | rfl | (simp only [bI, xSm, c_2, c_3, eq_self, ↓reduceIte]; done) | (simp only [bI, xSm, c_2, c_3, eq_self, ↓reduceIte]; rfl) | simp [bI, xSm, c_2, c_3])
        exact ih_i (by omega) trivial ls (by show lv_has ls 5 [(0, .ref hM), (1, .int q), (2, .int (bI b)), (3, .int (xSm a o q b (i + 1))), (4, .int (nI (i + 1)))]; rw [eb_0]; exact lv_sub hl [1, 2, 3, 4, 0] rfl)
      · have c_3 : (xFor a o q i) = true := bI_1 c_3
        refine lv_iload_n hx hb dX2_inSome_23 rfl (lv_at hl 3 rfl) ?_
        refine lv_iload_n hx hb dX2_inSome_24 rfl (lv_at hl 2 rfl) ?_
        refine lv_if_eq (tgt := 36) hx hb dX2_inSome_25 (by decide) (fun c_4 => ?_) (fun c_4 => ?_)
        · have c_4 : b = false := bI_0 c_4
          refine lv_iload hx hb dX2_inSome_36 (lv_at hl 4 rfl) ?_
          refine lv_bipush (v := 64) hx hb dX2_inSome_38 (by decide) ?_
          refine lv_idiv hx hb dX2_inSome_40 (by decide) ?_
          refine lv_iconst (v := (-1)) hx hb dX2_inSome_41 (by decide) ?_
          refine lv_ixor hx hb dX2_inSome_42 ?_
          refine lv_ior hx hb dX2_inSome_43 ?_
          refine lv_istore_n (lv' := [(3, .int ((xSm a o q b i) ||| (((nI i) / 64) ^^^ (-1)))), (0, .ref hM), (1, .int q), (2, .int (bI b)), (4, .int (nI i))]) hx hb dX2_inSome_44 rfl hl (by decide) rfl (fun ls hl => ?_)
          refine lv_iinc (v := (nI (i + 1))) (lv' := [(4, .int (nI (i + 1))), (3, .int ((xSm a o q b i) ||| (((nI i) / 64) ^^^ (-1)))), (0, .ref hM), (1, .int q), (2, .int (bI b))]) hx hb dX2_inSome_45 hl (k := 4) rfl (nI_1 i) (by decide) rfl (fun ls hl => ?_)
          refine lv_goto (tgt := 5) hx hb dX2_inSome_48 (by decide) ?_
          have eb_0 : (xSm a o q b (i + 1)) = ((xSm a o q b i) ||| (((nI i) / 64) ^^^ (-1))) := by (first | rfl | (simp only [bI, xSm, c_2, c_3, c_4, eq_self, ↓reduceIte]; done) | (simp only [bI, xSm, c_2, c_3, c_4, eq_self, ↓reduceIte]; rfl) | simp [bI, xSm, c_2, c_3, c_4])
          exact ih_i (by omega) trivial ls (by show lv_has ls 5 [(0, .ref hM), (1, .int q), (2, .int (bI b)), (3, .int (xSm a o q b (i + 1))), (4, .int (nI (i + 1)))]; rw [eb_0]; exact lv_sub hl [2, 3, 4, 1, 0] rfl)
        · have c_4 : b = true := bI_1 c_4
          refine lv_iload hx hb dX2_inSome_28 (lv_at hl 4 rfl) ?_
          refine lv_bipush (v := 64) hx hb dX2_inSome_30 (by decide) ?_
          refine lv_idiv hx hb dX2_inSome_32 (by decide) ?_
          refine lv_goto (tgt := 43) hx hb dX2_inSome_33 (by decide) ?_
          refine lv_ior hx hb dX2_inSome_43 ?_
          refine lv_istore_n (lv' := [(3, .int ((xSm a o q b i) ||| ((nI i) / 64))), (0, .ref hM), (1, .int q), (2, .int (bI b)), (4, .int (nI i))]) hx hb dX2_inSome_44 rfl hl (by decide) rfl (fun ls hl => ?_)
          refine lv_iinc (v := (nI (i + 1))) (lv' := [(4, .int (nI (i + 1))), (3, .int ((xSm a o q b i) ||| ((nI i) / 64))), (0, .ref hM), (1, .int q), (2, .int (bI b))]) hx hb dX2_inSome_45 hl (k := 4) rfl (nI_1 i) (by decide) rfl (fun ls hl => ?_)
          refine lv_goto (tgt := 5) hx hb dX2_inSome_48 (by decide) ?_
          have eb_0 : (xSm a o q b (i + 1)) = ((xSm a o q b i) ||| ((nI i) / 64)) := by (first | rfl | (simp only [bI, xSm, c_2, c_3, c_4, eq_self, ↓reduceIte]; done) | (simp only [bI, xSm, c_2, c_3, c_4, eq_self, ↓reduceIte]; rfl) | simp [bI, xSm, c_2, c_3, c_4])
          exact ih_i (by omega) trivial ls (by show lv_has ls 5 [(0, .ref hM), (1, .int q), (2, .int (bI b)), (3, .int (xSm a o q b (i + 1))), (4, .int (nI (i + 1)))]; rw [eb_0]; exact lv_sub hl [2, 3, 4, 1, 0] rfl)
  · show lv_has ls 5 [(0, .ref hM), (1, .int q), (2, .int (bI b)), (3, .int (xSm a o q b 0)), (4, .int (nI 0))]
    have en_0 : (xSm a o q b 0) = 0 := by rfl
    rw [en_0]
    have en_1 : (nI 0) = 0 := by exact nI_0
    rw [en_1]
    exact lv_sub hl [2, 3, 4, 1, 0] rfl

theorem in_X2_sureWitches_X2 : ∀ w ∈ wsX20, w ∈ wsX2_sureWitches := by decide +kernel
set_option maxHeartbeats 2000000 in
set_option maxRecDepth 100000 in
theorem c_X2_sureWitches (l : Launch) (D : va_G) (cI cZ cJ : ClassId) (sz : Nat) (hM : Nat) (hO : Nat) (hW : Nat) (hY : Nat) (th : Int32) (a : Nat → Int32) (o : Nat → Bool) (q : Int32) (hk : kAs a q = 0) : Mi l D cI cZ cJ yX2_sureWitches wsX2_sureWitches 4 90 sz [.ref hM, .int q] [cM hM hO hW hY th a, cA cZ hO 16384 (fun w => bI (o w))] [cM hM hO hW hY (kAs a q) a, cA cZ hO 16384 (fun w => bI (o w))] (xAll (a 2) &&& ((xSm a o q false 16384 &&& xAll (a 2)) ^^^ (-1))) := by
  refine mi_of (by decide) rfl (Nat.le_of_ble_eq_true rfl) (fun p e s m below meth c ls A hx hb hr hml hts hown hlocks hin hP hK hN hD hA hS hl => ?_)
  have hl : lv_has ls 2 [(0, .ref hM), (1, .int q)] := hl
  refine lv_aload_n hx hb dX2_sureWitches_0 rfl (lv_at hl 0 rfl) ?_
  refine lv_iload_n hx hb dX2_sureWitches_1 rfl (lv_at hl 1 rfl) ?_
  refine mi_V (b := hM) (As := [.int q]) (rest := []) (W2 := [cM hM hO hW hY (kAs a q) a, cA cZ hO 16384 (fun w => bI (o w))]) ⟨hx, hb, hml, hown, hts⟩ (c_X2_asks l D cI cZ cJ _ hM hO hW hY th a q) (cwV 1 hts gX2_sureWitches_X2_asks rfl rfl rfl (by decide +kernel) ⟨Nat.le_of_ble_eq_true rfl, Nat.le_of_ble_eq_true rfl⟩) hP hD hK hN hS hA (va_recv hK hP (ci := 2) (q0 := 0) rfl rfl) rfl hl.1 rfl (Nat.le_of_ble_eq_true rfl) dX2_sureWitches_2 ⟨Nat.le_of_ble_eq_true rfl, Nat.le_of_ble_eq_true rfl⟩ [0] [1] rfl rfl rfl (by intro i hi; simp only [List.mem_cons, List.not_mem_nil, or_false] at hi; rcases hi with rfl <;> rfl) rfl 2 rfl (by decide) (by decide) (fun H locs hP hD hS => ?_)
  refine lv_if_eq (tgt := 28) hx hb dX2_sureWitches_5 (by decide) (fun c_1 => ?_) (fun c_1 => ?_)
  · have c_1 : (decide (kAs a q = 0)) = false := bI_0 c_1
    simp [hk] at c_1
  · have c_1 : (decide (kAs a q = 0)) = true := bI_1 c_1
    refine lv_iconst (v := 1) hx hb dX2_sureWitches_8 (by decide) ?_
    refine lv_aload_n hx hb dX2_sureWitches_9 rfl (lv_at hl 0 rfl) ?_
    refine va_get (D := D) (cl := vwCl) (ci := 2) (v := .int (a 2)) (C := RX2) (T := TX2) (N := 16) hx hb hts in_X2_sureWitches_X2 hown hK hP 0 rfl rfl 2 (by decide) (hts (.fieldLink RX2 24 "WitchTrialModel" "players" "I") (List.mem_of_getElem? (i := 1) rfl)) (fun _ h9 => h9) rfl dX2_sureWitches_10 ?_
    refine lv_ishl hx hb dX2_sureWitches_13 ?_
    refine lv_iconst (v := 1) hx hb dX2_sureWitches_14 (by decide) ?_
    refine lv_isub hx hb dX2_sureWitches_15 ?_
    refine lv_aload_n hx hb dX2_sureWitches_16 rfl (lv_at hl 0 rfl) ?_
    refine lv_iload_n hx hb dX2_sureWitches_17 rfl (lv_at hl 1 rfl) ?_
    refine lv_iconst (v := 0) hx hb dX2_sureWitches_18 (by decide) ?_
    refine rd_V (b := hM) (As := [.int q, .int 0]) (rest := [.int (((1 : Int32) <<< ((a 2) &&& 31)) - 1)]) ⟨hx, hb, hml, hown, hts⟩ (c_X2_inSome l D cI cZ cJ hM hO hW hY (kAs a q) a o q false) (cwV 2 hts gX2_sureWitches_X2_inSome rfl rfl rfl (by decide +kernel) ⟨Nat.le_of_ble_eq_true rfl, Nat.le_of_ble_eq_true rfl⟩) (hP.sub (ws' := [cM hM hO hW hY (kAs a q) a, cA cZ hO 16384 (fun w => bI (o w))]) [0, 1] rfl) hK hN (va_recv hK hP (ci := 2) (q0 := 0) rfl rfl) rfl hl.1 rfl (Nat.le_of_ble_eq_true rfl) dX2_sureWitches_19 ⟨Nat.le_of_ble_eq_true rfl, Nat.le_of_ble_eq_true rfl⟩ ?_
    refine lv_iconst (v := (-1)) hx hb dX2_sureWitches_22 (by decide) ?_
    refine lv_ixor hx hb dX2_sureWitches_23 ?_
    refine lv_iand hx hb dX2_sureWitches_24 ?_
    refine lv_goto (tgt := 29) hx hb dX2_sureWitches_25 (by decide) ?_
    have hP9 : va_P D vwCl [cM hM hO hW hY (kAs a q) a, cA cZ hO 16384 (fun w => bI (o w))] H := by
      exact hP
    exact mi_iret hx hb hr hlocks hS (by rfl) hP9 dX2_sureWitches_29

set_option maxHeartbeats 2000000 in
set_option maxRecDepth 100000 in
theorem f_X2_sureWitches (l : Launch) (D : va_G) (cI cZ cJ : ClassId) (sz : Nat) (hM : Nat) (hO : Nat) (hW : Nat) (hY : Nat) (th : Int32) (a : Nat → Int32) (q : Int32) (hk : ¬ kAs a q = 0) : Mi l D cI cZ cJ yX2_sureWitches wsX2_sureWitches 4 85 sz [.ref hM, .int q] [cM hM hO hW hY th a] [cM hM hO hW hY (kAs a q) a] (0) := by
  refine mi_of (by decide) rfl (Nat.le_of_ble_eq_true rfl) (fun p e s m below meth c ls A hx hb hr hml hts hown hlocks hin hP hK hN hD hA hS hl => ?_)
  have hl : lv_has ls 2 [(0, .ref hM), (1, .int q)] := hl
  refine lv_aload_n hx hb dX2_sureWitches_0 rfl (lv_at hl 0 rfl) ?_
  refine lv_iload_n hx hb dX2_sureWitches_1 rfl (lv_at hl 1 rfl) ?_
  refine mi_V (b := hM) (As := [.int q]) (rest := []) (W2 := [cM hM hO hW hY (kAs a q) a]) ⟨hx, hb, hml, hown, hts⟩ (c_X2_asks l D cI cZ cJ _ hM hO hW hY th a q) (cwV 1 hts gX2_sureWitches_X2_asks rfl rfl rfl (by decide +kernel) ⟨Nat.le_of_ble_eq_true rfl, Nat.le_of_ble_eq_true rfl⟩) hP hD hK hN hS hA (va_recv hK hP (ci := 2) (q0 := 0) rfl rfl) rfl hl.1 rfl (Nat.le_of_ble_eq_true rfl) dX2_sureWitches_2 ⟨Nat.le_of_ble_eq_true rfl, Nat.le_of_ble_eq_true rfl⟩ [0] [] rfl rfl rfl (fun i hi => nomatch hi) rfl 1 rfl (by decide) (by decide) (fun H locs hP hD hS => ?_)
  refine lv_if_eq (tgt := 28) hx hb dX2_sureWitches_5 (by decide) (fun c_1 => ?_) (fun c_1 => ?_)
  · have c_1 : (decide (kAs a q = 0)) = false := bI_0 c_1
    refine lv_iconst (v := 0) hx hb dX2_sureWitches_28 (by decide) ?_
    have hP9 : va_P D vwCl [cM hM hO hW hY (kAs a q) a] H := by
      exact hP
    exact mi_iret hx hb hr hlocks hS (by rfl) hP9 dX2_sureWitches_29
  · have c_1 : (decide (kAs a q = 0)) = true := bI_1 c_1
    simp [hk] at c_1

theorem in_X2_sureHonest_X2 : ∀ w ∈ wsX20, w ∈ wsX2_sureHonest := by decide +kernel
set_option maxHeartbeats 2000000 in
set_option maxRecDepth 100000 in
theorem c_X2_sureHonest (l : Launch) (D : va_G) (cI cZ cJ : ClassId) (sz : Nat) (hM : Nat) (hO : Nat) (hW : Nat) (hY : Nat) (th : Int32) (a : Nat → Int32) (o : Nat → Bool) (q : Int32) (hk : kAs a q = 0) : Mi l D cI cZ cJ yX2_sureHonest wsX2_sureHonest 4 90 sz [.ref hM, .int q] [cM hM hO hW hY th a, cA cZ hO 16384 (fun w => bI (o w))] [cM hM hO hW hY (kAs a q) a, cA cZ hO 16384 (fun w => bI (o w))] (xAll (a 2) &&& ((xSm a o q true 16384 &&& xAll (a 2)) ^^^ (-1))) := by
  refine mi_of (by decide) rfl (Nat.le_of_ble_eq_true rfl) (fun p e s m below meth c ls A hx hb hr hml hts hown hlocks hin hP hK hN hD hA hS hl => ?_)
  have hl : lv_has ls 2 [(0, .ref hM), (1, .int q)] := hl
  refine lv_aload_n hx hb dX2_sureHonest_0 rfl (lv_at hl 0 rfl) ?_
  refine lv_iload_n hx hb dX2_sureHonest_1 rfl (lv_at hl 1 rfl) ?_
  refine mi_V (b := hM) (As := [.int q]) (rest := []) (W2 := [cM hM hO hW hY (kAs a q) a, cA cZ hO 16384 (fun w => bI (o w))]) ⟨hx, hb, hml, hown, hts⟩ (c_X2_asks l D cI cZ cJ _ hM hO hW hY th a q) (cwV 1 hts gX2_sureHonest_X2_asks rfl rfl rfl (by decide +kernel) ⟨Nat.le_of_ble_eq_true rfl, Nat.le_of_ble_eq_true rfl⟩) hP hD hK hN hS hA (va_recv hK hP (ci := 2) (q0 := 0) rfl rfl) rfl hl.1 rfl (Nat.le_of_ble_eq_true rfl) dX2_sureHonest_2 ⟨Nat.le_of_ble_eq_true rfl, Nat.le_of_ble_eq_true rfl⟩ [0] [1] rfl rfl rfl (by intro i hi; simp only [List.mem_cons, List.not_mem_nil, or_false] at hi; rcases hi with rfl <;> rfl) rfl 2 rfl (by decide) (by decide) (fun H locs hP hD hS => ?_)
  refine lv_if_eq (tgt := 28) hx hb dX2_sureHonest_5 (by decide) (fun c_1 => ?_) (fun c_1 => ?_)
  · have c_1 : (decide (kAs a q = 0)) = false := bI_0 c_1
    simp [hk] at c_1
  · have c_1 : (decide (kAs a q = 0)) = true := bI_1 c_1
    refine lv_iconst (v := 1) hx hb dX2_sureHonest_8 (by decide) ?_
    refine lv_aload_n hx hb dX2_sureHonest_9 rfl (lv_at hl 0 rfl) ?_
    refine va_get (D := D) (cl := vwCl) (ci := 2) (v := .int (a 2)) (C := RX2) (T := TX2) (N := 16) hx hb hts in_X2_sureHonest_X2 hown hK hP 0 rfl rfl 2 (by decide) (hts (.fieldLink RX2 24 "WitchTrialModel" "players" "I") (List.mem_of_getElem? (i := 1) rfl)) (fun _ h9 => h9) rfl dX2_sureHonest_10 ?_
    refine lv_ishl hx hb dX2_sureHonest_13 ?_
    refine lv_iconst (v := 1) hx hb dX2_sureHonest_14 (by decide) ?_
    refine lv_isub hx hb dX2_sureHonest_15 ?_
    refine lv_aload_n hx hb dX2_sureHonest_16 rfl (lv_at hl 0 rfl) ?_
    refine lv_iload_n hx hb dX2_sureHonest_17 rfl (lv_at hl 1 rfl) ?_
    refine lv_iconst (v := 1) hx hb dX2_sureHonest_18 (by decide) ?_
    refine rd_V (b := hM) (As := [.int q, .int 1]) (rest := [.int (((1 : Int32) <<< ((a 2) &&& 31)) - 1)]) ⟨hx, hb, hml, hown, hts⟩ (c_X2_inSome l D cI cZ cJ hM hO hW hY (kAs a q) a o q true) (cwV 2 hts gX2_sureHonest_X2_inSome rfl rfl rfl (by decide +kernel) ⟨Nat.le_of_ble_eq_true rfl, Nat.le_of_ble_eq_true rfl⟩) (hP.sub (ws' := [cM hM hO hW hY (kAs a q) a, cA cZ hO 16384 (fun w => bI (o w))]) [0, 1] rfl) hK hN (va_recv hK hP (ci := 2) (q0 := 0) rfl rfl) rfl hl.1 rfl (Nat.le_of_ble_eq_true rfl) dX2_sureHonest_19 ⟨Nat.le_of_ble_eq_true rfl, Nat.le_of_ble_eq_true rfl⟩ ?_
    refine lv_iconst (v := (-1)) hx hb dX2_sureHonest_22 (by decide) ?_
    refine lv_ixor hx hb dX2_sureHonest_23 ?_
    refine lv_iand hx hb dX2_sureHonest_24 ?_
    refine lv_goto (tgt := 29) hx hb dX2_sureHonest_25 (by decide) ?_
    have hP9 : va_P D vwCl [cM hM hO hW hY (kAs a q) a, cA cZ hO 16384 (fun w => bI (o w))] H := by
      exact hP
    exact mi_iret hx hb hr hlocks hS (by rfl) hP9 dX2_sureHonest_29

set_option maxHeartbeats 2000000 in
set_option maxRecDepth 100000 in
theorem f_X2_sureHonest (l : Launch) (D : va_G) (cI cZ cJ : ClassId) (sz : Nat) (hM : Nat) (hO : Nat) (hW : Nat) (hY : Nat) (th : Int32) (a : Nat → Int32) (q : Int32) (hk : ¬ kAs a q = 0) : Mi l D cI cZ cJ yX2_sureHonest wsX2_sureHonest 4 85 sz [.ref hM, .int q] [cM hM hO hW hY th a] [cM hM hO hW hY (kAs a q) a] (0) := by
  refine mi_of (by decide) rfl (Nat.le_of_ble_eq_true rfl) (fun p e s m below meth c ls A hx hb hr hml hts hown hlocks hin hP hK hN hD hA hS hl => ?_)
  have hl : lv_has ls 2 [(0, .ref hM), (1, .int q)] := hl
  refine lv_aload_n hx hb dX2_sureHonest_0 rfl (lv_at hl 0 rfl) ?_
  refine lv_iload_n hx hb dX2_sureHonest_1 rfl (lv_at hl 1 rfl) ?_
  refine mi_V (b := hM) (As := [.int q]) (rest := []) (W2 := [cM hM hO hW hY (kAs a q) a]) ⟨hx, hb, hml, hown, hts⟩ (c_X2_asks l D cI cZ cJ _ hM hO hW hY th a q) (cwV 1 hts gX2_sureHonest_X2_asks rfl rfl rfl (by decide +kernel) ⟨Nat.le_of_ble_eq_true rfl, Nat.le_of_ble_eq_true rfl⟩) hP hD hK hN hS hA (va_recv hK hP (ci := 2) (q0 := 0) rfl rfl) rfl hl.1 rfl (Nat.le_of_ble_eq_true rfl) dX2_sureHonest_2 ⟨Nat.le_of_ble_eq_true rfl, Nat.le_of_ble_eq_true rfl⟩ [0] [] rfl rfl rfl (fun i hi => nomatch hi) rfl 1 rfl (by decide) (by decide) (fun H locs hP hD hS => ?_)
  refine lv_if_eq (tgt := 28) hx hb dX2_sureHonest_5 (by decide) (fun c_1 => ?_) (fun c_1 => ?_)
  · have c_1 : (decide (kAs a q = 0)) = false := bI_0 c_1
    refine lv_iconst (v := 0) hx hb dX2_sureHonest_28 (by decide) ?_
    have hP9 : va_P D vwCl [cM hM hO hW hY (kAs a q) a] H := by
      exact hP
    exact mi_iret hx hb hr hlocks hS (by rfl) hP9 dX2_sureHonest_29
  · have c_1 : (decide (kAs a q = 0)) = true := bI_1 c_1
    simp [hk] at c_1

theorem in_X2_witchSets_X2 : ∀ w ∈ wsX20, w ∈ wsX2_witchSets := by decide +kernel
set_option maxHeartbeats 2000000 in
set_option maxRecDepth 100000 in
theorem c_X2_witchSets (l : Launch) (D : va_G) (cI cZ cJ : ClassId) (sz : Nat) (hM : Nat) (hO : Nat) (hW : Nat) (hY : Nat) (th : Int32) (a : Nat → Int32) (o : Nat → Bool) (q : Int32) (hk : kAs a q = 0) : Mi l D cI cZ cJ yX2_witchSets wsX2_witchSets 4 85 sz [.ref hM, .int q] [cM hM hO hW hY th a, cA cZ hO 16384 (fun w => bI (o w))] [cM hM hO hW hY (kAs a q) a, cA cZ hO 16384 (fun w => bI (o w))] (xWs a o q 256) := by
  refine mi_of (by decide) rfl (Nat.le_of_ble_eq_true rfl) (fun p e s m below meth c ls A hx hb hr hml hts hown hlocks hin hP hK hN hD hA hS hl => ?_)
  have hl : lv_has ls 6 [(0, .ref hM), (1, .int q)] := hl
  refine lv_aload_n hx hb dX2_witchSets_0 rfl (lv_at hl 0 rfl) ?_
  refine lv_iload_n hx hb dX2_witchSets_1 rfl (lv_at hl 1 rfl) ?_
  refine mi_V (b := hM) (As := [.int q]) (rest := []) (W2 := [cM hM hO hW hY (kAs a q) a, cA cZ hO 16384 (fun w => bI (o w))]) ⟨hx, hb, hml, hown, hts⟩ (c_X2_asks l D cI cZ cJ _ hM hO hW hY th a q) (cwV 1 hts gX2_witchSets_X2_asks rfl rfl rfl (by decide +kernel) ⟨Nat.le_of_ble_eq_true rfl, Nat.le_of_ble_eq_true rfl⟩) hP hD hK hN hS hA (va_recv hK hP (ci := 2) (q0 := 0) rfl rfl) rfl hl.1 rfl (Nat.le_of_ble_eq_true rfl) dX2_witchSets_2 ⟨Nat.le_of_ble_eq_true rfl, Nat.le_of_ble_eq_true rfl⟩ [0] [1] rfl rfl rfl (by intro i hi; simp only [List.mem_cons, List.not_mem_nil, or_false] at hi; rcases hi with rfl <;> rfl) rfl 2 rfl (by decide) (by decide) (fun H locs hP hD hS => ?_)
  refine lv_if_ne (tgt := 10) hx hb dX2_witchSets_5 (by decide) (fun c_1 => ?_) (fun c_1 => ?_)
  · have c_1 : (decide (kAs a q = 0)) = true := bI_1 c_1
    refine lv_iconst (v := 0) hx hb dX2_witchSets_10 (by decide) ?_
    refine lv_istore_n (lv' := [(2, .int 0), (0, .ref hM), (1, .int q)]) hx hb dX2_witchSets_11 rfl hl (by decide) rfl (fun ls hl => ?_)
    refine lv_iconst (v := 0) hx hb dX2_witchSets_12 (by decide) ?_
    refine lv_istore_n (lv' := [(3, .int 0), (2, .int 0), (0, .ref hM), (1, .int q)]) hx hb dX2_witchSets_13 rfl hl (by decide) rfl (fun ls hl => ?_)
    refine loop_R (nL := 6) (h := 14) 256 (fun i => [(0, .ref hM), (1, .int q), (2, .int (xWs a o q i)), (3, .int (nI i))]) (fun _ => True) (fun i hi hI ih_i ls hl => ?_) 0 (by omega) trivial ls ?_
    · have hl : lv_has ls 6 [(0, .ref hM), (1, .int q), (2, .int (xWs a o q i)), (3, .int (nI i))] := hl
      refine lv_iload_n hx hb dX2_witchSets_14 rfl (lv_at hl 3 rfl) ?_
      refine lv_sipush (v := 256) hx hb dX2_witchSets_15 (by decide) ?_
      refine lv_icmp_ge (tgt := 89) hx hb dX2_witchSets_18 (by decide) (fun c_3 => ?_) (fun c_3 => ?_)
      · have hi9 : 256 = i := (geN hi (by omega) rfl c_3).symm
        subst hi9
        refine lv_iload_n hx hb dX2_witchSets_89 rfl (lv_at hl 2 rfl) ?_
        have hP9 : va_P D vwCl [cM hM hO hW hY (kAs a q) a, cA cZ hO 16384 (fun w => bI (o w))] H := by
          exact hP
        exact mi_iret hx hb hr hlocks hS (by rfl) hP9 dX2_witchSets_90
      · have hlt : i < 256 := ltN hi (by omega) rfl c_3
        refine lv_iconst (v := 0) hx hb dX2_witchSets_21 (by decide) ?_
        refine lv_istore (lv' := [(4, .int 0), (0, .ref hM), (1, .int q), (2, .int (xWs a o q i)), (3, .int (nI i))]) hx hb dX2_witchSets_22 hl (by decide) rfl (fun ls hl => ?_)
        refine lv_bipush (v := 64) hx hb dX2_witchSets_24 (by decide) ?_
        refine lv_iload_n hx hb dX2_witchSets_26 rfl (lv_at hl 4 rfl) ?_
        refine lv_imul hx hb dX2_witchSets_27 ?_
        refine lv_istore (lv' := [(5, .int (64 * (nI i))), (4, .int 0), (0, .ref hM), (1, .int q), (2, .int (xWs a o q i)), (3, .int (nI i))]) hx hb dX2_witchSets_28 hl (by decide) rfl (fun ls hl => ?_)
        refine loop_R (nL := 6) (h := 30) 64 (fun j => [(0, .ref hM), (1, .int q), (2, .int (xWs a o q i)), (3, .int (nI i)), (4, .int (bI (xAny a o q i j))), (5, .int (nI (64 * i + j)))]) (fun _ => True) (fun j hj hI ih_j ls hl => ?_) 0 (by omega) trivial ls ?_
        · have hl : lv_has ls 6 [(0, .ref hM), (1, .int q), (2, .int (xWs a o q i)), (3, .int (nI i)), (4, .int (bI (xAny a o q i j))), (5, .int (nI (64 * i + j)))] := hl
          refine lv_iload hx hb dX2_witchSets_30 (lv_at hl 5 rfl) ?_
          refine lv_bipush (v := 64) hx hb dX2_witchSets_32 (by decide) ?_
          refine lv_iload_n hx hb dX2_witchSets_34 rfl (lv_at hl 3 rfl) ?_
          refine lv_imul hx hb dX2_witchSets_35 ?_
          refine lv_bipush (v := 64) hx hb dX2_witchSets_36 (by decide) ?_
          refine lv_iadd hx hb dX2_witchSets_38 ?_
          refine lv_icmp_ge (tgt := 70) hx hb dX2_witchSets_39 (by decide) (fun c_5 => ?_) (fun c_5 => ?_)
          · have hj9 : 64 = j := wsG hlt hj c_5
            subst hj9
            refine lv_iload_n hx hb dX2_witchSets_70 rfl (lv_at hl 2 rfl) ?_
            refine lv_iload hx hb dX2_witchSets_71 (lv_at hl 4 rfl) ?_
            refine lv_if_eq (tgt := 80) hx hb dX2_witchSets_73 (by decide) (fun c_6 => ?_) (fun c_6 => ?_)
            · have c_6 : (xAny a o q i 64) = false := bI_0 c_6
              refine lv_iconst (v := 0) hx hb dX2_witchSets_80 (by decide) ?_
              refine lv_iadd hx hb dX2_witchSets_81 ?_
              refine lv_istore_n (lv' := [(2, .int ((xWs a o q i) + 0)), (0, .ref hM), (1, .int q), (3, .int (nI i)), (4, .int (bI (xAny a o q i 64))), (5, .int (nI (64 * i + 64)))]) hx hb dX2_witchSets_82 rfl hl (by decide) rfl (fun ls hl => ?_)
              refine lv_iinc (v := (nI (i + 1))) (lv' := [(3, .int (nI (i + 1))), (2, .int ((xWs a o q i) + 0)), (0, .ref hM), (1, .int q), (4, .int (bI (xAny a o q i 64))), (5, .int (nI (64 * i + 64)))]) hx hb dX2_witchSets_83 hl (k := 3) rfl (nI_1 i) (by decide) rfl (fun ls hl => ?_)
              refine lv_goto (tgt := 14) hx hb dX2_witchSets_86 (by decide) ?_
              have eb_0 : (xWs a o q (i + 1)) = ((xWs a o q i) + 0) := by (first | rfl | (simp only [kAs, bI, xWs, c_1, c_3, c_6, eq_self, ↓reduceIte]; done) | (simp only [kAs, bI, xWs, c_1, c_3, c_6, eq_self, ↓reduceIte]; rfl) | simp [kAs, bI, xWs, c_1, c_3, c_6])
              exact ih_i (by omega) trivial ls (by show lv_has ls 6 [(0, .ref hM), (1, .int q), (2, .int (xWs a o q (i + 1))), (3, .int (nI (i + 1)))]; rw [eb_0]; exact lv_sub hl [2, 3, 1, 0] rfl)
            · have c_6 : (xAny a o q i 64) = true := bI_1 c_6
              refine lv_iconst (v := 1) hx hb dX2_witchSets_76 (by decide) ?_
              refine lv_goto (tgt := 81) hx hb dX2_witchSets_77 (by decide) ?_
              refine lv_iadd hx hb dX2_witchSets_81 ?_
              refine lv_istore_n (lv' := [(2, .int ((xWs a o q i) + 1)), (0, .ref hM), (1, .int q), (3, .int (nI i)), (4, .int (bI (xAny a o q i 64))), (5, .int (nI (64 * i + 64)))]) hx hb dX2_witchSets_82 rfl hl (by decide) rfl (fun ls hl => ?_)
              refine lv_iinc (v := (nI (i + 1))) (lv' := [(3, .int (nI (i + 1))), (2, .int ((xWs a o q i) + 1)), (0, .ref hM), (1, .int q), (4, .int (bI (xAny a o q i 64))), (5, .int (nI (64 * i + 64)))]) hx hb dX2_witchSets_83 hl (k := 3) rfl (nI_1 i) (by decide) rfl (fun ls hl => ?_)
              refine lv_goto (tgt := 14) hx hb dX2_witchSets_86 (by decide) ?_
              have eb_0 : (xWs a o q (i + 1)) = ((xWs a o q i) + 1) := by (first | rfl | (simp only [kAs, bI, xWs, c_1, c_3, c_6, eq_self, ↓reduceIte]; done) | (simp only [kAs, bI, xWs, c_1, c_3, c_6, eq_self, ↓reduceIte]; rfl) | simp [kAs, bI, xWs, c_1, c_3, c_6])
              exact ih_i (by omega) trivial ls (by show lv_has ls 6 [(0, .ref hM), (1, .int q), (2, .int (xWs a o q (i + 1))), (3, .int (nI (i + 1)))]; rw [eb_0]; exact lv_sub hl [2, 3, 1, 0] rfl)
          · have hlj : j < 64 := wsL hlt hj c_5
            refine lv_iload hx hb dX2_witchSets_42 (lv_at hl 4 rfl) ?_
            refine lv_if_ne (tgt := 57) hx hb dX2_witchSets_44 (by decide) (fun c_7 => ?_) (fun c_7 => ?_)
            · have c_7 : (xAny a o q i j) = true := bI_1 c_7
              refine lv_iconst (v := 1) hx hb dX2_witchSets_57 (by decide) ?_
              refine lv_goto (tgt := 62) hx hb dX2_witchSets_58 (by decide) ?_
              refine lv_istore (lv' := [(4, .int 1), (0, .ref hM), (1, .int q), (2, .int (xWs a o q i)), (3, .int (nI i)), (5, .int (nI (64 * i + j)))]) hx hb dX2_witchSets_62 hl (by decide) rfl (fun ls hl => ?_)
              refine lv_iinc (v := (nI ((64 * i + j) + 1))) (lv' := [(5, .int (nI ((64 * i + j) + 1))), (4, .int 1), (0, .ref hM), (1, .int q), (2, .int (xWs a o q i)), (3, .int (nI i))]) hx hb dX2_witchSets_64 hl (k := 5) rfl (nI_1 (64 * i + j)) (by decide) rfl (fun ls hl => ?_)
              refine lv_goto (tgt := 30) hx hb dX2_witchSets_67 (by decide) ?_
              have eb_0 : (bI (xAny a o q i (j + 1))) = 1 := by (first | rfl | (simp only [kAs, bI, xAny, c_1, c_3, c_5, c_7, eq_self, ↓reduceIte]; done) | (simp only [kAs, bI, xAny, c_1, c_3, c_5, c_7, eq_self, ↓reduceIte]; rfl) | simp [kAs, bI, xAny, c_1, c_3, c_5, c_7])
              have eb_1 : (nI (64 * i + (j + 1))) = (nI ((64 * i + j) + 1)) := by rfl
              exact ih_j (by omega) trivial ls (by show lv_has ls 6 [(0, .ref hM), (1, .int q), (2, .int (xWs a o q i)), (3, .int (nI i)), (4, .int (bI (xAny a o q i (j + 1)))), (5, .int (nI (64 * i + (j + 1))))]; rw [eb_0]; rw [eb_1]; exact lv_sub hl [2, 3, 4, 5, 1, 0] rfl)
            · have c_7 : (xAny a o q i j) = false := bI_0 c_7
              refine lv_aload_n hx hb dX2_witchSets_47 rfl (lv_at hl 0 rfl) ?_
              refine lv_iload_n hx hb dX2_witchSets_48 rfl (lv_at hl 1 rfl) ?_
              refine lv_iload hx hb dX2_witchSets_49 (lv_at hl 5 rfl) ?_
              refine rd_V (b := hM) (As := [.int q, .int (nI (64 * i + j))]) (rest := []) ⟨hx, hb, hml, hown, hts⟩ (c_X2_isFor l D cI cZ cJ hM hO hW hY (kAs a q) a o q (64 * i + j) (by omega)) (cwV 2 hts gX2_witchSets_X2_isFor rfl rfl rfl (by decide +kernel) ⟨Nat.le_of_ble_eq_true rfl, Nat.le_of_ble_eq_true rfl⟩) (hP.sub (ws' := [cM hM hO hW hY (kAs a q) a, cA cZ hO 16384 (fun w => bI (o w))]) [0, 1] rfl) hK hN (va_recv hK hP (ci := 2) (q0 := 0) rfl rfl) rfl hl.1 rfl (Nat.le_of_ble_eq_true rfl) dX2_witchSets_51 ⟨Nat.le_of_ble_eq_true rfl, Nat.le_of_ble_eq_true rfl⟩ ?_
              refine lv_if_eq (tgt := 61) hx hb dX2_witchSets_54 (by decide) (fun c_8 => ?_) (fun c_8 => ?_)
              · have c_8 : (xFor a o q (64 * i + j)) = false := bI_0 c_8
                refine lv_iconst (v := 0) hx hb dX2_witchSets_61 (by decide) ?_
                refine lv_istore (lv' := [(4, .int 0), (0, .ref hM), (1, .int q), (2, .int (xWs a o q i)), (3, .int (nI i)), (5, .int (nI (64 * i + j)))]) hx hb dX2_witchSets_62 hl (by decide) rfl (fun ls hl => ?_)
                refine lv_iinc (v := (nI ((64 * i + j) + 1))) (lv' := [(5, .int (nI ((64 * i + j) + 1))), (4, .int 0), (0, .ref hM), (1, .int q), (2, .int (xWs a o q i)), (3, .int (nI i))]) hx hb dX2_witchSets_64 hl (k := 5) rfl (nI_1 (64 * i + j)) (by decide) rfl (fun ls hl => ?_)
                refine lv_goto (tgt := 30) hx hb dX2_witchSets_67 (by decide) ?_
                have eb_0 : (bI (xAny a o q i (j + 1))) = 0 := by (first | rfl | (simp only [kAs, bI, xAny, c_1, c_3, c_5, c_7, c_8, eq_self, ↓reduceIte]; done) | (simp only [kAs, bI, xAny, c_1, c_3, c_5, c_7, c_8, eq_self, ↓reduceIte]; rfl) | simp [kAs, bI, xAny, c_1, c_3, c_5, c_7, c_8])
                have eb_1 : (nI (64 * i + (j + 1))) = (nI ((64 * i + j) + 1)) := by rfl
                exact ih_j (by omega) trivial ls (by show lv_has ls 6 [(0, .ref hM), (1, .int q), (2, .int (xWs a o q i)), (3, .int (nI i)), (4, .int (bI (xAny a o q i (j + 1)))), (5, .int (nI (64 * i + (j + 1))))]; rw [eb_0]; rw [eb_1]; exact lv_sub hl [2, 3, 4, 5, 1, 0] rfl)
              · have c_8 : (xFor a o q (64 * i + j)) = true := bI_1 c_8
                refine lv_iconst (v := 1) hx hb dX2_witchSets_57 (by decide) ?_
                refine lv_goto (tgt := 62) hx hb dX2_witchSets_58 (by decide) ?_
                refine lv_istore (lv' := [(4, .int 1), (0, .ref hM), (1, .int q), (2, .int (xWs a o q i)), (3, .int (nI i)), (5, .int (nI (64 * i + j)))]) hx hb dX2_witchSets_62 hl (by decide) rfl (fun ls hl => ?_)
                refine lv_iinc (v := (nI ((64 * i + j) + 1))) (lv' := [(5, .int (nI ((64 * i + j) + 1))), (4, .int 1), (0, .ref hM), (1, .int q), (2, .int (xWs a o q i)), (3, .int (nI i))]) hx hb dX2_witchSets_64 hl (k := 5) rfl (nI_1 (64 * i + j)) (by decide) rfl (fun ls hl => ?_)
                refine lv_goto (tgt := 30) hx hb dX2_witchSets_67 (by decide) ?_
                have eb_0 : (bI (xAny a o q i (j + 1))) = 1 := by (first | rfl | (simp only [kAs, bI, xAny, c_1, c_3, c_5, c_7, c_8, eq_self, ↓reduceIte]; done) | (simp only [kAs, bI, xAny, c_1, c_3, c_5, c_7, c_8, eq_self, ↓reduceIte]; rfl) | simp [kAs, bI, xAny, c_1, c_3, c_5, c_7, c_8])
                have eb_1 : (nI (64 * i + (j + 1))) = (nI ((64 * i + j) + 1)) := by rfl
                exact ih_j (by omega) trivial ls (by show lv_has ls 6 [(0, .ref hM), (1, .int q), (2, .int (xWs a o q i)), (3, .int (nI i)), (4, .int (bI (xAny a o q i (j + 1)))), (5, .int (nI (64 * i + (j + 1))))]; rw [eb_0]; rw [eb_1]; exact lv_sub hl [2, 3, 4, 5, 1, 0] rfl)
        · show lv_has ls 6 [(0, .ref hM), (1, .int q), (2, .int (xWs a o q i)), (3, .int (nI i)), (4, .int (bI (xAny a o q i 0))), (5, .int (nI (64 * i + 0)))]
          have en_0 : (bI (xAny a o q i 0)) = 0 := by rfl
          rw [en_0]
          have en_1 : (nI (64 * i + 0)) = (64 * (nI i)) := by exact wsE i
          rw [en_1]
          exact lv_sub hl [2, 3, 4, 5, 1, 0] rfl
    · show lv_has ls 6 [(0, .ref hM), (1, .int q), (2, .int (xWs a o q 0)), (3, .int (nI 0))]
      have en_0 : (xWs a o q 0) = 0 := by rfl
      rw [en_0]
      have en_1 : (nI 0) = 0 := by exact nI_0
      rw [en_1]
      exact lv_sub hl [2, 3, 1, 0] rfl
  · have c_1 : (decide (kAs a q = 0)) = false := bI_0 c_1
    simp [hk] at c_1

set_option maxHeartbeats 2000000 in
set_option maxRecDepth 100000 in
theorem f_X2_witchSets (l : Launch) (D : va_G) (cI cZ cJ : ClassId) (sz : Nat) (hM : Nat) (hO : Nat) (hW : Nat) (hY : Nat) (th : Int32) (a : Nat → Int32) (q : Int32) (hk : ¬ kAs a q = 0) : Mi l D cI cZ cJ yX2_witchSets wsX2_witchSets 4 85 sz [.ref hM, .int q] [cM hM hO hW hY th a] [cM hM hO hW hY (kAs a q) a] (0) := by
  refine mi_of (by decide) rfl (Nat.le_of_ble_eq_true rfl) (fun p e s m below meth c ls A hx hb hr hml hts hown hlocks hin hP hK hN hD hA hS hl => ?_)
  have hl : lv_has ls 6 [(0, .ref hM), (1, .int q)] := hl
  refine lv_aload_n hx hb dX2_witchSets_0 rfl (lv_at hl 0 rfl) ?_
  refine lv_iload_n hx hb dX2_witchSets_1 rfl (lv_at hl 1 rfl) ?_
  refine mi_V (b := hM) (As := [.int q]) (rest := []) (W2 := [cM hM hO hW hY (kAs a q) a]) ⟨hx, hb, hml, hown, hts⟩ (c_X2_asks l D cI cZ cJ _ hM hO hW hY th a q) (cwV 1 hts gX2_witchSets_X2_asks rfl rfl rfl (by decide +kernel) ⟨Nat.le_of_ble_eq_true rfl, Nat.le_of_ble_eq_true rfl⟩) hP hD hK hN hS hA (va_recv hK hP (ci := 2) (q0 := 0) rfl rfl) rfl hl.1 rfl (Nat.le_of_ble_eq_true rfl) dX2_witchSets_2 ⟨Nat.le_of_ble_eq_true rfl, Nat.le_of_ble_eq_true rfl⟩ [0] [] rfl rfl rfl (fun i hi => nomatch hi) rfl 1 rfl (by decide) (by decide) (fun H locs hP hD hS => ?_)
  refine lv_if_ne (tgt := 10) hx hb dX2_witchSets_5 (by decide) (fun c_1 => ?_) (fun c_1 => ?_)
  · have c_1 : (decide (kAs a q = 0)) = true := bI_1 c_1
    simp [hk] at c_1
  · have c_1 : (decide (kAs a q = 0)) = false := bI_0 c_1
    refine lv_iconst (v := 0) hx hb dX2_witchSets_8 (by decide) ?_
    have hP9 : va_P D vwCl [cM hM hO hW hY (kAs a q) a] H := by
      exact hP
    exact mi_iret hx hb hr hlocks hS (by rfl) hP9 dX2_witchSets_9

theorem in_X2_laysWitches_X2 : ∀ w ∈ wsX20, w ∈ wsX2_laysWitches := by decide +kernel
set_option maxHeartbeats 2000000 in
set_option maxRecDepth 100000 in
theorem c_X2_laysWitches (l : Launch) (D : va_G) (cI cZ cJ : ClassId) (sz : Nat) (hM : Nat) (hO : Nat) (hW : Nat) (hY : Nat) (th : Int32) (a : Nat → Int32) (o : Nat → Bool) (mn : Nat → Int32) (q : Int32) (n : Nat) (hn : a 2 = nI n) (hn8 : n ≤ 8) : Mv l D cI cZ cJ yX2_laysWitches wsX2_laysWitches 4 91 sz [.ref hM, .int q] [cM hM hO hW hY th a, cA cZ hO 16384 (fun w => bI (o w)), cA cI hY 8 mn] [cM hM hO hW hY th a, cA cZ hO 16384 (fun w => bI (o w)), cA cI hY 8 (iUp (xNw a o q) mn n)] := by
  refine mv_of (by decide) rfl (Nat.le_of_ble_eq_true rfl) (fun p e s m below meth c ls A hx hb hr hml hts hown hlocks hin hP hK hN hD hA hS hl => ?_)
  have hl : lv_has ls 3 [(0, .ref hM), (1, .int q)] := hl
  refine lv_iconst (v := 0) hx hb dX2_laysWitches_0 (by decide) ?_
  refine lv_istore_n (lv' := [(2, .int 0), (0, .ref hM), (1, .int q)]) hx hb dX2_laysWitches_1 rfl hl (by decide) rfl (fun ls hl => ?_)
  refine loop_M (D := D) (nL := 3) (h := 2) n (fun i => [(0, .ref hM), (1, .int q), (2, .int (nI i))]) (fun i => [cM hM hO hW hY th a, cA cZ hO 16384 (fun w => bI (o w)), cA cI hY 8 (iUp (xNw a o q) mn i)]) (fun _ => True) (fun i hi hI ih_i H locs ls hP hD hS hl => ?_) 0 (by omega) trivial _ _ ls ?_ ?_ hS ?_
  · have hl : lv_has ls 3 [(0, .ref hM), (1, .int q), (2, .int (nI i))] := hl
    have hP : va_P D vwCl [cM hM hO hW hY th a, cA cZ hO 16384 (fun w => bI (o w)), cA cI hY 8 (iUp (xNw a o q) mn i)] H := hP
    have hD : va_D A [cM hM hO hW hY th a, cA cZ hO 16384 (fun w => bI (o w)), cA cI hY 8 (iUp (xNw a o q) mn i)] := hD
    refine lv_iload_n hx hb dX2_laysWitches_2 rfl (lv_at hl 2 rfl) ?_
    refine lv_aload_n hx hb dX2_laysWitches_3 rfl (lv_at hl 0 rfl) ?_
    refine va_get (D := D) (cl := vwCl) (ci := 2) (v := .int (a 2)) (C := RX2) (T := TX2) (N := 16) hx hb hts in_X2_laysWitches_X2 hown hK hP 0 rfl rfl 2 (by decide) (hts (.fieldLink RX2 24 "WitchTrialModel" "players" "I") (List.mem_of_getElem? (i := 1) rfl)) (fun _ h9 => h9) rfl dX2_laysWitches_4 ?_
    refine lv_icmp_ge (tgt := 29) hx hb dX2_laysWitches_7 (by decide) (fun c_2 => ?_) (fun c_2 => ?_)
    · have hi9 : n = i := (geN hi (by omega) hn c_2).symm
      subst hi9
      have hP9 : va_P D vwCl [cM hM hO hW hY th a, cA cZ hO 16384 (fun w => bI (o w)), cA cI hY 8 (iUp (xNw a o q) mn n)] H := by
        exact hP
      exact mv_ret hx hb hr hlocks hS hP9 dX2_laysWitches_29
    · have hlt : i < n := ltN hi (by omega) hn c_2
      refine lv_aload_n hx hb dX2_laysWitches_10 rfl (lv_at hl 0 rfl) ?_
      refine va_get (D := D) (cl := vwCl) (ci := 2) (v := .ref hY) (C := RX2) (T := TX2) (N := 16) hx hb hts in_X2_laysWitches_X2 hown hK hP 0 rfl rfl 15 (by decide) (hts (.fieldLink RX2 17 "WitchTrialModel" "many" "[I") (List.mem_of_getElem? (i := 2) rfl)) (fun _ h9 => h9) rfl dX2_laysWitches_11 ?_
      refine lv_iload_n hx hb dX2_laysWitches_14 rfl (lv_at hl 2 rfl) ?_
      refine lv_aload_n hx hb dX2_laysWitches_15 rfl (lv_at hl 0 rfl) ?_
      refine lv_iload_n hx hb dX2_laysWitches_16 rfl (lv_at hl 1 rfl) ?_
      refine lv_iload_n hx hb dX2_laysWitches_17 rfl (lv_at hl 2 rfl) ?_
      refine lv_iconst (v := 1) hx hb dX2_laysWitches_18 (by decide) ?_
      refine rd_V (b := hM) (As := [.int q, .int (nI i), .int 1]) (rest := [.int (nI i), .ref hY]) ⟨hx, hb, hml, hown, hts⟩ (c_X2_manyWith l D cI cZ cJ hM hO hW hY th a o q (nI i) 1) (cwV 3 hts gX2_laysWitches_X2_manyWith rfl rfl rfl (by decide +kernel) ⟨Nat.le_of_ble_eq_true rfl, Nat.le_of_ble_eq_true rfl⟩) (hP.sub (ws' := [cM hM hO hW hY th a, cA cZ hO 16384 (fun w => bI (o w))]) [0, 1] rfl) hK hN (va_recv hK hP (ci := 2) (q0 := 0) rfl rfl) rfl hl.1 rfl (Nat.le_of_ble_eq_true rfl) dX2_laysWitches_19 ⟨Nat.le_of_ble_eq_true rfl, Nat.le_of_ble_eq_true rfl⟩ ?_
      refine q_iast (D := D) (j := i) hx hb hK hP hD hS 2 0 rfl rfl (by omega) (Nat.le_of_ble_eq_true rfl) dX2_laysWitches_22 (fun H locs hP hD hS => ?_)
      have hP : va_P D vwCl [cM hM hO hW hY th a, cA cZ hO 16384 (fun w => bI (o w)), cA cI hY 8 (upd (iUp (xNw a o q) mn i) i (xCnt (xWt a o q (nI i) 1) 16384))] H := hP
      have hD : va_D A [cM hM hO hW hY th a, cA cZ hO 16384 (fun w => bI (o w)), cA cI hY 8 (upd (iUp (xNw a o q) mn i) i (xCnt (xWt a o q (nI i) 1) 16384))] := hD
      refine lv_iinc (v := (nI (i + 1))) (lv' := [(2, .int (nI (i + 1))), (0, .ref hM), (1, .int q)]) hx hb dX2_laysWitches_23 hl (k := 2) rfl (nI_1 i) (by decide) rfl (fun ls hl => ?_)
      refine lv_goto (tgt := 2) hx hb dX2_laysWitches_26 (by decide) ?_
      have ew_0 : (iUp (xNw a o q) mn (i + 1)) = (upd (iUp (xNw a o q) mn i) i (xCnt (xWt a o q (nI i) 1) 16384)) := by exact iUp_step rfl
      exact ih_i (by omega) trivial _ _ ls (by show va_P D vwCl [cM hM hO hW hY th a, cA cZ hO 16384 (fun w => bI (o w)), cA cI hY 8 (iUp (xNw a o q) mn (i + 1))] _; rw [ew_0]; exact hP) (by show va_D A [cM hM hO hW hY th a, cA cZ hO 16384 (fun w => bI (o w)), cA cI hY 8 (iUp (xNw a o q) mn (i + 1))]; rw [ew_0]; exact hD) hS (by show lv_has ls 3 [(0, .ref hM), (1, .int q), (2, .int (nI (i + 1)))]; exact lv_sub hl [1, 2, 0] rfl)
  · show va_P D vwCl [cM hM hO hW hY th a, cA cZ hO 16384 (fun w => bI (o w)), cA cI hY 8 (iUp (xNw a o q) mn 0)] _
    have ez_0 : (iUp (xNw a o q) mn 0) = mn := by exact iUp_0 _ _
    rw [ez_0]
    exact hP
  · show va_D A [cM hM hO hW hY th a, cA cZ hO 16384 (fun w => bI (o w)), cA cI hY 8 (iUp (xNw a o q) mn 0)]
    have ez_0 : (iUp (xNw a o q) mn 0) = mn := by exact iUp_0 _ _
    rw [ez_0]
    exact hD
  · show lv_has ls 3 [(0, .ref hM), (1, .int q), (2, .int (nI 0))]
    have en_0 : (nI 0) = 0 := by exact nI_0
    rw [en_0]
    exact lv_sub hl [1, 2, 0] rfl
