set_option maxHeartbeats 2000000 in
set_option maxRecDepth 100000 in
theorem f_X2_closeVote (l : Launch) (D : va_G) (cI cZ cJ : ClassId) (sz : Nat) (hM : Nat) (hO : Nat) (hW : Nat) (hY : Nat) (th : Int32) (a : Nat → Int32) (hk : ¬ a 0 = 1) : Mi l D cI cZ cJ yX2_closeVote wsX2_closeVote 0 0 sz [.ref hM] [cM hM hO hW hY th a] [cM hM hO hW hY 1 a] (0) := by
  refine mi_of (by decide) rfl (Nat.le_of_ble_eq_true rfl) (fun p e s m below meth c ls A hx hb hr hml hts hown hlocks hin hP hK hN hD hA hS hl => ?_)
  have hl : lv_has ls 5 [(0, .ref hM)] := hl
  refine lv_aload_n hx hb dX2_closeVote_0 rfl (lv_at hl 0 rfl) ?_
  refine lv_aload_n hx hb dX2_closeVote_1 rfl (lv_at hl 0 rfl) ?_
  refine va_get (D := D) (cl := vwCl) (ci := 2) (v := .int (a 0)) (C := RX2) (T := TX2) (N := 16) hx hb hts in_X2_closeVote_X2 hown hK hP 0 rfl rfl 1 (by decide) (hts (.fieldLink RX2 70 "WitchTrialModel" "phase" "I") (List.mem_of_getElem? (i := 1) rfl)) (fun _ h9 => h9) rfl dX2_closeVote_2 ?_
  refine lv_iconst (v := 1) hx hb dX2_closeVote_5 (by decide) ?_
  refine lv_icmp_ne (tgt := 13) hx hb dX2_closeVote_6 (by decide) (fun c_1 => ?_) (fun c_1 => ?_)
  · refine lv_iconst (v := 1) hx hb dX2_closeVote_13 (by decide) ?_
    refine va_put (D := D) (cl := vwCl) (ci := 2) (v := .int 1) (ty := .int) (C := RX2) (T := TX2) (N := 16) hx hb hts in_X2_closeVote_X2 tyX2 tyX2_ok nmX2 hown hK hP hD hS 0 rfl rfl 0 (by decide) (hts (.fieldLink RX2 20 "WitchTrialModel" "thrown" "I") (List.mem_of_getElem? (i := 2) rfl)) (fun _ h9 => h9) rfl (by decide +kernel) rfl rfl (Nat.le_of_ble_eq_true rfl) dX2_closeVote_14 (fun H locs hP hD hS => ?_)
    have hP : va_P D vwCl [cM hM hO hW hY 1 a] H := hP
    have hD : va_D A [cM hM hO hW hY 1 a] := hD
    refine lv_aload_n hx hb dX2_closeVote_17 rfl (lv_at hl 0 rfl) ?_
    refine va_get (D := D) (cl := vwCl) (ci := 2) (v := .int 1) (C := RX2) (T := TX2) (N := 16) hx hb hts in_X2_closeVote_X2 hown hK hP 0 rfl rfl 0 (by decide) (hts (.fieldLink RX2 20 "WitchTrialModel" "thrown" "I") (List.mem_of_getElem? (i := 2) rfl)) (fun _ h9 => h9) rfl dX2_closeVote_18 ?_
    refine lv_if_le (tgt := 26) hx hb dX2_closeVote_21 (by decide) (fun c_2 => ?_) (fun c_2 => ?_)
    · exact absurd c_2 (by decide)
    · refine lv_iconst (v := 0) hx hb dX2_closeVote_24 (by decide) ?_
      have hP9 : va_P D vwCl [cM hM hO hW hY 1 a] H := by
        exact hP
      exact mi_iret hx hb hr hlocks hS (by rfl) hP9 dX2_closeVote_25
  · refine lv_iconst (v := 0) hx hb dX2_closeVote_9 (by decide) ?_
    refine lv_goto (tgt := 14) hx hb dX2_closeVote_10 (by decide) ?_
    refine va_put (D := D) (cl := vwCl) (ci := 2) (v := .int 0) (ty := .int) (C := RX2) (T := TX2) (N := 16) hx hb hts in_X2_closeVote_X2 tyX2 tyX2_ok nmX2 hown hK hP hD hS 0 rfl rfl 0 (by decide) (hts (.fieldLink RX2 20 "WitchTrialModel" "thrown" "I") (List.mem_of_getElem? (i := 2) rfl)) (fun _ h9 => h9) rfl (by decide +kernel) rfl rfl (Nat.le_of_ble_eq_true rfl) dX2_closeVote_14 (fun H locs hP hD hS => ?_)
    have hP : va_P D vwCl [cM hM hO hW hY 0 a] H := hP
    have hD : va_D A [cM hM hO hW hY 0 a] := hD
    refine lv_aload_n hx hb dX2_closeVote_17 rfl (lv_at hl 0 rfl) ?_
    refine va_get (D := D) (cl := vwCl) (ci := 2) (v := .int 0) (C := RX2) (T := TX2) (N := 16) hx hb hts in_X2_closeVote_X2 hown hK hP 0 rfl rfl 0 (by decide) (hts (.fieldLink RX2 20 "WitchTrialModel" "thrown" "I") (List.mem_of_getElem? (i := 2) rfl)) (fun _ h9 => h9) rfl dX2_closeVote_18 ?_
    refine lv_if_le (tgt := 26) hx hb dX2_closeVote_21 (by decide) (fun c_3 => ?_) (fun c_3 => ?_)
    · exact absurd hk (by simp [bI, c_1])
    · exact absurd c_3 (by decide)

set_option maxHeartbeats 2000000 in
set_option maxRecDepth 100000 in
theorem f_X2_endNight (l : Launch) (D : va_G) (cI cZ cJ : ClassId) (sz : Nat) (hM : Nat) (hO : Nat) (hW : Nat) (hY : Nat) (th : Int32) (a : Nat → Int32) (hk : ¬ a 0 = 2) : Mi l D cI cZ cJ yX2_endNight wsX2_endNight 0 0 sz [.ref hM] [cM hM hO hW hY th a] [cM hM hO hW hY 1 a] (0) := by
  refine mi_of (by decide) rfl (Nat.le_of_ble_eq_true rfl) (fun p e s m below meth c ls A hx hb hr hml hts hown hlocks hin hP hK hN hD hA hS hl => ?_)
  have hl : lv_has ls 2 [(0, .ref hM)] := hl
  refine lv_aload_n hx hb dX2_endNight_0 rfl (lv_at hl 0 rfl) ?_
  refine lv_aload_n hx hb dX2_endNight_1 rfl (lv_at hl 0 rfl) ?_
  refine va_get (D := D) (cl := vwCl) (ci := 2) (v := .int (a 0)) (C := RX2) (T := TX2) (N := 16) hx hb hts in_X2_endNight_X2 hown hK hP 0 rfl rfl 1 (by decide) (hts (.fieldLink RX2 70 "WitchTrialModel" "phase" "I") (List.mem_of_getElem? (i := 1) rfl)) (fun _ h9 => h9) rfl dX2_endNight_2 ?_
  refine lv_iconst (v := 2) hx hb dX2_endNight_5 (by decide) ?_
  refine lv_icmp_ne (tgt := 13) hx hb dX2_endNight_6 (by decide) (fun c_1 => ?_) (fun c_1 => ?_)
  · refine lv_iconst (v := 1) hx hb dX2_endNight_13 (by decide) ?_
    refine va_put (D := D) (cl := vwCl) (ci := 2) (v := .int 1) (ty := .int) (C := RX2) (T := TX2) (N := 16) hx hb hts in_X2_endNight_X2 tyX2 tyX2_ok nmX2 hown hK hP hD hS 0 rfl rfl 0 (by decide) (hts (.fieldLink RX2 20 "WitchTrialModel" "thrown" "I") (List.mem_of_getElem? (i := 2) rfl)) (fun _ h9 => h9) rfl (by decide +kernel) rfl rfl (Nat.le_of_ble_eq_true rfl) dX2_endNight_14 (fun H locs hP hD hS => ?_)
    have hP : va_P D vwCl [cM hM hO hW hY 1 a] H := hP
    have hD : va_D A [cM hM hO hW hY 1 a] := hD
    refine lv_aload_n hx hb dX2_endNight_17 rfl (lv_at hl 0 rfl) ?_
    refine va_get (D := D) (cl := vwCl) (ci := 2) (v := .int 1) (C := RX2) (T := TX2) (N := 16) hx hb hts in_X2_endNight_X2 hown hK hP 0 rfl rfl 0 (by decide) (hts (.fieldLink RX2 20 "WitchTrialModel" "thrown" "I") (List.mem_of_getElem? (i := 2) rfl)) (fun _ h9 => h9) rfl dX2_endNight_18 ?_
    refine lv_if_le (tgt := 26) hx hb dX2_endNight_21 (by decide) (fun c_2 => ?_) (fun c_2 => ?_)
    · exact absurd c_2 (by decide)
    · refine lv_iconst (v := 0) hx hb dX2_endNight_24 (by decide) ?_
      have hP9 : va_P D vwCl [cM hM hO hW hY 1 a] H := by
        exact hP
      exact mi_iret hx hb hr hlocks hS (by rfl) hP9 dX2_endNight_25
  · refine lv_iconst (v := 0) hx hb dX2_endNight_9 (by decide) ?_
    refine lv_goto (tgt := 14) hx hb dX2_endNight_10 (by decide) ?_
    refine va_put (D := D) (cl := vwCl) (ci := 2) (v := .int 0) (ty := .int) (C := RX2) (T := TX2) (N := 16) hx hb hts in_X2_endNight_X2 tyX2 tyX2_ok nmX2 hown hK hP hD hS 0 rfl rfl 0 (by decide) (hts (.fieldLink RX2 20 "WitchTrialModel" "thrown" "I") (List.mem_of_getElem? (i := 2) rfl)) (fun _ h9 => h9) rfl (by decide +kernel) rfl rfl (Nat.le_of_ble_eq_true rfl) dX2_endNight_14 (fun H locs hP hD hS => ?_)
    have hP : va_P D vwCl [cM hM hO hW hY 0 a] H := hP
    have hD : va_D A [cM hM hO hW hY 0 a] := hD
    refine lv_aload_n hx hb dX2_endNight_17 rfl (lv_at hl 0 rfl) ?_
    refine va_get (D := D) (cl := vwCl) (ci := 2) (v := .int 0) (C := RX2) (T := TX2) (N := 16) hx hb hts in_X2_endNight_X2 hown hK hP 0 rfl rfl 0 (by decide) (hts (.fieldLink RX2 20 "WitchTrialModel" "thrown" "I") (List.mem_of_getElem? (i := 2) rfl)) (fun _ h9 => h9) rfl dX2_endNight_18 ?_
    refine lv_if_le (tgt := 26) hx hb dX2_endNight_21 (by decide) (fun c_3 => ?_) (fun c_3 => ?_)
    · exact absurd hk (by simp [bI, c_1])
    · exact absurd c_3 (by decide)
