set_option maxHeartbeats 2000000 in
set_option maxRecDepth 100000 in
theorem c_X1_isDeal (l : Launch) (D : va_G) (cI cZ cJ : ClassId) (pl : Int32) (wi : Int32) (se : Int32) (gu : Int32)  : Rd l D cI cZ cJ yX1_isDeal wsX1_isDeal 2 42 [.int pl, .int wi, .int se, .int gu] [] (bI (yGood pl wi se gu)) := by
  refine rd_of (by decide) rfl (Nat.le_of_ble_eq_true rfl) (fun p e s m below meth c ls hx hb hr hml hts hown hlocks hP hK hN hl => ?_)
  have hl : lv_has ls 4 [(0, .int pl), (1, .int wi), (2, .int se), (3, .int gu)] := hl
  refine lv_iload_n hx hb dX1_isDeal_0 rfl (lv_at hl 0 rfl) ?_
  refine lv_iconst (v := 4) hx hb dX1_isDeal_1 (by decide) ?_
  refine lv_icmp_lt (tgt := 63) hx hb dX1_isDeal_2 (by decide) (fun c_1 => ?_) (fun c_1 => ?_)
  · refine lv_iconst (v := 0) hx hb dX1_isDeal_63 (by decide) ?_
    exact rd_zret hx hb hr hlocks (by (first | rfl | (simp only [yGood, bI, c_1, eq_self, ↓reduceIte]; done) | (simp only [yGood, bI, c_1, eq_self, ↓reduceIte]; rfl) | simp [yGood, bI, c_1])) rfl dX1_isDeal_64
  · refine lv_iload_n hx hb dX1_isDeal_5 rfl (lv_at hl 0 rfl) ?_
    refine lv_bipush (v := 8) hx hb dX1_isDeal_6 (by decide) ?_
    refine lv_icmp_gt (tgt := 63) hx hb dX1_isDeal_8 (by decide) (fun c_2 => ?_) (fun c_2 => ?_)
    · refine lv_iconst (v := 0) hx hb dX1_isDeal_63 (by decide) ?_
      exact rd_zret hx hb hr hlocks (by (first | rfl | (simp only [yGood, bI, c_1, c_2, eq_self, ↓reduceIte]; done) | (simp only [yGood, bI, c_1, c_2, eq_self, ↓reduceIte]; rfl) | simp [yGood, bI, c_1, c_2])) rfl dX1_isDeal_64
    · refine lv_iload_n hx hb dX1_isDeal_11 rfl (lv_at hl 1 rfl) ?_
      refine lv_iload_n hx hb dX1_isDeal_12 rfl (lv_at hl 0 rfl) ?_
      refine rd_S (As := [.int pl]) (rest := [.int wi]) ⟨hx, hb, hml, hown, hts⟩ (c_X1_everyone l D cI cZ cJ pl) (va_cwS 1 hts gX1_isDeal_X1_everyone rfl rfl rfl (by decide +kernel) ⟨Nat.le_of_ble_eq_true rfl, Nat.le_of_ble_eq_true rfl⟩) (hP.sub (ws' := []) [] rfl) hK hN rfl hl.1 rfl (Nat.le_of_ble_eq_true rfl) dX1_isDeal_13 ⟨Nat.le_of_ble_eq_true rfl, Nat.le_of_ble_eq_true rfl⟩ ?_
      refine lv_iconst (v := (-1)) hx hb dX1_isDeal_16 (by decide) ?_
      refine lv_ixor hx hb dX1_isDeal_17 ?_
      refine lv_iand hx hb dX1_isDeal_18 ?_
      refine lv_if_ne (tgt := 63) hx hb dX1_isDeal_19 (by decide) (fun c_3 => ?_) (fun c_3 => ?_)
      · refine lv_iconst (v := 0) hx hb dX1_isDeal_63 (by decide) ?_
        exact rd_zret hx hb hr hlocks (by (first | rfl | (simp only [yGood, bI, c_1, c_2, c_3, eq_self, ↓reduceIte]; done) | (simp only [yGood, bI, c_1, c_2, c_3, eq_self, ↓reduceIte]; rfl) | simp [yGood, bI, c_1, c_2, c_3])) rfl dX1_isDeal_64
      · refine lv_iload_n hx hb dX1_isDeal_22 rfl (lv_at hl 1 rfl) ?_
        refine lv_if_eq (tgt := 63) hx hb dX1_isDeal_23 (by decide) (fun c_4 => ?_) (fun c_4 => ?_)
        · refine lv_iconst (v := 0) hx hb dX1_isDeal_63 (by decide) ?_
          exact rd_zret hx hb hr hlocks (by (first | rfl | (simp only [yGood, bI, c_1, c_2, c_3, eq_true c_4, eq_self, ↓reduceIte]; done) | (simp only [yGood, bI, c_1, c_2, c_3, eq_true c_4, eq_self, ↓reduceIte]; rfl) | (simp only [yGood, bI, c_1, c_2, eq_true c_3, eq_true c_4, eq_self, ↓reduceIte]; done) | (simp only [yGood, bI, c_1, c_2, eq_true c_3, eq_true c_4, eq_self, ↓reduceIte]; rfl) | (simp [yGood, bI, c_1, c_2, eq_true c_3, eq_true c_4]; done) | simp [yGood, bI, c_1, c_2, c_3, eq_true c_4])) rfl dX1_isDeal_64
        · refine lv_iconst (v := 2) hx hb dX1_isDeal_26 (by decide) ?_
          refine lv_iload_n hx hb dX1_isDeal_27 rfl (lv_at hl 1 rfl) ?_
          refine rd_S (As := [.int wi]) (rest := [.int 2]) ⟨hx, hb, hml, hown, hts⟩ (c_J6_bitCount_0f7a4 l D cI cZ cJ wi) (va_cwS 1 hts gX1_isDeal_J6_bitCount_0f7a4 rfl rfl rfl (by decide +kernel) ⟨Nat.le_of_ble_eq_true rfl, Nat.le_of_ble_eq_true rfl⟩) (hP.sub (ws' := []) [] rfl) hK hN rfl hl.1 rfl (Nat.le_of_ble_eq_true rfl) dX1_isDeal_28 ⟨Nat.le_of_ble_eq_true rfl, Nat.le_of_ble_eq_true rfl⟩ ?_
          refine lv_imul hx hb dX1_isDeal_31 ?_
          refine lv_iload_n hx hb dX1_isDeal_32 rfl (lv_at hl 0 rfl) ?_
          refine lv_icmp_ge (tgt := 63) hx hb dX1_isDeal_33 (by decide) (fun c_5 => ?_) (fun c_5 => ?_)
          · refine lv_iconst (v := 0) hx hb dX1_isDeal_63 (by decide) ?_
            exact rd_zret hx hb hr hlocks (by (first | rfl | (simp only [yGood, bI, c_1, c_2, c_3, c_4, c_5, eq_self, ↓reduceIte]; done) | (simp only [yGood, bI, c_1, c_2, c_3, c_4, c_5, eq_self, ↓reduceIte]; rfl) | (simp only [yGood, bI, c_1, c_2, eq_true c_3, c_4, c_5, eq_self, ↓reduceIte]; done) | (simp only [yGood, bI, c_1, c_2, eq_true c_3, c_4, c_5, eq_self, ↓reduceIte]; rfl) | (simp [yGood, bI, c_1, c_2, eq_true c_3, c_4, c_5]; done) | simp [yGood, bI, c_1, c_2, c_3, c_4, c_5])) rfl dX1_isDeal_64
          · refine lv_iload_n hx hb dX1_isDeal_36 rfl (lv_at hl 0 rfl) ?_
            refine lv_iload_n hx hb dX1_isDeal_37 rfl (lv_at hl 1 rfl) ?_
            refine lv_iload_n hx hb dX1_isDeal_38 rfl (lv_at hl 2 rfl) ?_
            refine rd_S (As := [.int pl, .int wi, .int se]) (rest := []) ⟨hx, hb, hml, hown, hts⟩ (c_X1_isHonestIn l D cI cZ cJ pl wi se) (va_cwS 3 hts gX1_isDeal_X1_isHonestIn rfl rfl rfl (by decide +kernel) ⟨Nat.le_of_ble_eq_true rfl, Nat.le_of_ble_eq_true rfl⟩) (hP.sub (ws' := []) [] rfl) hK hN rfl hl.1 rfl (Nat.le_of_ble_eq_true rfl) dX1_isDeal_39 ⟨Nat.le_of_ble_eq_true rfl, Nat.le_of_ble_eq_true rfl⟩ ?_
            refine lv_if_eq (tgt := 63) hx hb dX1_isDeal_42 (by decide) (fun c_6 => ?_) (fun c_6 => ?_)
            · have c_6 : (yHo pl wi se) = false := bI_0 c_6
              refine lv_iconst (v := 0) hx hb dX1_isDeal_63 (by decide) ?_
              exact rd_zret hx hb hr hlocks (by (first | rfl | (simp only [yGood, bI, c_1, c_2, c_3, c_4, c_5, c_6, eq_self, ↓reduceIte]; done) | (simp only [yGood, bI, c_1, c_2, c_3, c_4, c_5, c_6, eq_self, ↓reduceIte]; rfl) | (simp only [yGood, bI, c_1, c_2, eq_true c_3, c_4, c_5, c_6, eq_self, ↓reduceIte]; done) | (simp only [yGood, bI, c_1, c_2, eq_true c_3, c_4, c_5, c_6, eq_self, ↓reduceIte]; rfl) | (simp [yGood, bI, c_1, c_2, eq_true c_3, c_4, c_5, c_6]; done) | simp [yGood, bI, c_1, c_2, c_3, c_4, c_5, c_6])) rfl dX1_isDeal_64
            · have c_6 : (yHo pl wi se) = true := bI_1 c_6
              refine lv_iload_n hx hb dX1_isDeal_45 rfl (lv_at hl 0 rfl) ?_
              refine lv_iload_n hx hb dX1_isDeal_46 rfl (lv_at hl 1 rfl) ?_
              refine lv_iload_n hx hb dX1_isDeal_47 rfl (lv_at hl 3 rfl) ?_
              refine rd_S (As := [.int pl, .int wi, .int gu]) (rest := []) ⟨hx, hb, hml, hown, hts⟩ (c_X1_isHonestIn l D cI cZ cJ pl wi gu) (va_cwS 3 hts gX1_isDeal_X1_isHonestIn rfl rfl rfl (by decide +kernel) ⟨Nat.le_of_ble_eq_true rfl, Nat.le_of_ble_eq_true rfl⟩) (hP.sub (ws' := []) [] rfl) hK hN rfl hl.1 rfl (Nat.le_of_ble_eq_true rfl) dX1_isDeal_48 ⟨Nat.le_of_ble_eq_true rfl, Nat.le_of_ble_eq_true rfl⟩ ?_
              refine lv_if_eq (tgt := 63) hx hb dX1_isDeal_51 (by decide) (fun c_7 => ?_) (fun c_7 => ?_)
              · have c_7 : (yHo pl wi gu) = false := bI_0 c_7
                refine lv_iconst (v := 0) hx hb dX1_isDeal_63 (by decide) ?_
                exact rd_zret hx hb hr hlocks (by (first | rfl | (simp only [yGood, bI, c_1, c_2, c_3, c_4, c_5, c_6, c_7, eq_self, ↓reduceIte]; done) | (simp only [yGood, bI, c_1, c_2, c_3, c_4, c_5, c_6, c_7, eq_self, ↓reduceIte]; rfl) | (simp only [yGood, bI, c_1, c_2, eq_true c_3, c_4, c_5, c_6, c_7, eq_self, ↓reduceIte]; done) | (simp only [yGood, bI, c_1, c_2, eq_true c_3, c_4, c_5, c_6, c_7, eq_self, ↓reduceIte]; rfl) | (simp [yGood, bI, c_1, c_2, eq_true c_3, c_4, c_5, c_6, c_7]; done) | simp [yGood, bI, c_1, c_2, c_3, c_4, c_5, c_6, c_7])) rfl dX1_isDeal_64
              · have c_7 : (yHo pl wi gu) = true := bI_1 c_7
                refine lv_iload_n hx hb dX1_isDeal_54 rfl (lv_at hl 2 rfl) ?_
                refine lv_iload_n hx hb dX1_isDeal_55 rfl (lv_at hl 3 rfl) ?_
                refine lv_icmp_eq (tgt := 63) hx hb dX1_isDeal_56 (by decide) (fun c_8 => ?_) (fun c_8 => ?_)
                · refine lv_iconst (v := 0) hx hb dX1_isDeal_63 (by decide) ?_
                  exact rd_zret hx hb hr hlocks (by (first | rfl | (simp only [yGood, bI, c_1, c_2, c_3, c_4, c_5, c_6, c_7, eq_true c_8, eq_self, ↓reduceIte]; done) | (simp only [yGood, bI, c_1, c_2, c_3, c_4, c_5, c_6, c_7, eq_true c_8, eq_self, ↓reduceIte]; rfl) | (simp only [yGood, bI, c_1, c_2, eq_true c_3, c_4, c_5, c_6, c_7, eq_true c_8, eq_self, ↓reduceIte]; done) | (simp only [yGood, bI, c_1, c_2, eq_true c_3, c_4, c_5, c_6, c_7, eq_true c_8, eq_self, ↓reduceIte]; rfl) | (simp [yGood, bI, c_1, c_2, eq_true c_3, c_4, c_5, c_6, c_7, eq_true c_8]; done) | simp [yGood, bI, c_1, c_2, c_3, c_4, c_5, c_6, c_7, eq_true c_8])) rfl dX1_isDeal_64
                · refine lv_iconst (v := 1) hx hb dX1_isDeal_59 (by decide) ?_
                  refine lv_goto (tgt := 64) hx hb dX1_isDeal_60 (by decide) ?_
                  exact rd_zret hx hb hr hlocks (by (first | rfl | (simp only [yGood, bI, c_1, c_2, c_3, c_4, c_5, c_6, c_7, c_8, eq_self, ↓reduceIte]; done) | (simp only [yGood, bI, c_1, c_2, c_3, c_4, c_5, c_6, c_7, c_8, eq_self, ↓reduceIte]; rfl) | (simp only [yGood, bI, c_1, c_2, eq_true c_3, c_4, c_5, c_6, c_7, c_8, eq_self, ↓reduceIte]; done) | (simp only [yGood, bI, c_1, c_2, eq_true c_3, c_4, c_5, c_6, c_7, c_8, eq_self, ↓reduceIte]; rfl) | (simp [yGood, bI, c_1, c_2, eq_true c_3, c_4, c_5, c_6, c_7, c_8]; done) | simp [yGood, bI, c_1, c_2, c_3, c_4, c_5, c_6, c_7, c_8])) rfl dX1_isDeal_64

theorem in_X1_phase_X1 : ∀ w ∈ wsX10, w ∈ wsX1_phase := by decide +kernel
set_option maxHeartbeats 2000000 in
set_option maxRecDepth 100000 in
theorem c_X1_phase (l : Launch) (D : va_G) (cI cZ cJ : ClassId) (hT : Nat) (hB : Nat) (hV : Nat) (a : Nat → Int32)  : Rd l D cI cZ cJ yX1_phase wsX1_phase 0 0 [.ref hT] [cT hT hB hV a] (a 0) := by
  refine rd_of (by decide) rfl (Nat.le_of_ble_eq_true rfl) (fun p e s m below meth c ls hx hb hr hml hts hown hlocks hP hK hN hl => ?_)
  have hl : lv_has ls 1 [(0, .ref hT)] := hl
  refine lv_aload_n hx hb dX1_phase_0 rfl (lv_at hl 0 rfl) ?_
  refine va_get (D := D) (cl := vwCl) (ci := 1) (v := .int (a 0)) (C := RX1) (T := TX1) (N := 14) hx hb hts in_X1_phase_X1 hown hK hP 0 rfl rfl 2 (by decide) (hts (.fieldLink RX1 20 "WitchTrial" "phase" "I") (List.mem_of_getElem? (i := 1) rfl)) (fun _ h9 => h9) rfl dX1_phase_1 ?_
  exact rd_iret hx hb hr hlocks (by rfl) dX1_phase_4

theorem in_X1_isAlive_X1 : ∀ w ∈ wsX10, w ∈ wsX1_isAlive := by decide +kernel
set_option maxHeartbeats 2000000 in
set_option maxRecDepth 100000 in
theorem c_X1_isAlive (l : Launch) (D : va_G) (cI cZ cJ : ClassId) (hT : Nat) (hB : Nat) (hV : Nat) (a : Nat → Int32) (q : Int32)  : Rd l D cI cZ cJ yX1_isAlive wsX1_isAlive 1 20 [.ref hT, .int q] [cT hT hB hV a] (bI (yIn (a 6) q)) := by
  refine rd_of (by decide) rfl (Nat.le_of_ble_eq_true rfl) (fun p e s m below meth c ls hx hb hr hml hts hown hlocks hP hK hN hl => ?_)
  have hl : lv_has ls 2 [(0, .ref hT), (1, .int q)] := hl
  refine lv_aload_n hx hb dX1_isAlive_0 rfl (lv_at hl 0 rfl) ?_
  refine va_get (D := D) (cl := vwCl) (ci := 1) (v := .int (a 6)) (C := RX1) (T := TX1) (N := 14) hx hb hts in_X1_isAlive_X1 hown hK hP 0 rfl rfl 8 (by decide) (hts (.fieldLink RX1 63 "WitchTrial" "aliveSet" "I") (List.mem_of_getElem? (i := 1) rfl)) (fun _ h9 => h9) rfl dX1_isAlive_1 ?_
  refine lv_iload_n hx hb dX1_isAlive_4 rfl (lv_at hl 1 rfl) ?_
  refine rd_S (As := [.int q]) (rest := [.int (a 6)]) ⟨hx, hb, hml, hown, hts⟩ (c_X1_setOf l D cI cZ cJ q) (va_cwS 1 hts gX1_isAlive_X1_setOf rfl rfl rfl (by decide +kernel) ⟨Nat.le_of_ble_eq_true rfl, Nat.le_of_ble_eq_true rfl⟩) (hP.sub (ws' := []) [] rfl) hK hN rfl hl.1 rfl (Nat.le_of_ble_eq_true rfl) dX1_isAlive_5 ⟨Nat.le_of_ble_eq_true rfl, Nat.le_of_ble_eq_true rfl⟩ ?_
  refine lv_iand hx hb dX1_isAlive_8 ?_
  refine lv_if_eq (tgt := 16) hx hb dX1_isAlive_9 (by decide) (fun c_1 => ?_) (fun c_1 => ?_)
  · refine lv_iconst (v := 0) hx hb dX1_isAlive_16 (by decide) ?_
    exact rd_zret hx hb hr hlocks (by (first | rfl | (simp only [yIn, bI, c_1, eq_self, ↓reduceIte]; done) | (simp only [yIn, bI, c_1, eq_self, ↓reduceIte]; rfl) | (simp only [yIn, bI, eq_true c_1, eq_self, ↓reduceIte]; done) | (simp only [yIn, bI, eq_true c_1, eq_self, ↓reduceIte]; rfl) | (simp [yIn, bI, eq_true c_1]; done) | simp [yIn, bI, c_1])) rfl dX1_isAlive_17
  · refine lv_iconst (v := 1) hx hb dX1_isAlive_12 (by decide) ?_
    refine lv_goto (tgt := 17) hx hb dX1_isAlive_13 (by decide) ?_
    exact rd_zret hx hb hr hlocks (by (first | rfl | (simp only [yIn, bI, c_1, eq_self, ↓reduceIte]; done) | (simp only [yIn, bI, c_1, eq_self, ↓reduceIte]; rfl) | simp [yIn, bI, c_1])) rfl dX1_isAlive_17

theorem in_X1_isWitch_X1 : ∀ w ∈ wsX10, w ∈ wsX1_isWitch := by decide +kernel
set_option maxHeartbeats 2000000 in
set_option maxRecDepth 100000 in
theorem c_X1_isWitch (l : Launch) (D : va_G) (cI cZ cJ : ClassId) (hT : Nat) (hB : Nat) (hV : Nat) (a : Nat → Int32) (q : Int32)  : Rd l D cI cZ cJ yX1_isWitch wsX1_isWitch 1 20 [.ref hT, .int q] [cT hT hB hV a] (bI (yIn (a 3) q)) := by
  refine rd_of (by decide) rfl (Nat.le_of_ble_eq_true rfl) (fun p e s m below meth c ls hx hb hr hml hts hown hlocks hP hK hN hl => ?_)
  have hl : lv_has ls 2 [(0, .ref hT), (1, .int q)] := hl
  refine lv_aload_n hx hb dX1_isWitch_0 rfl (lv_at hl 0 rfl) ?_
  refine va_get (D := D) (cl := vwCl) (ci := 1) (v := .int (a 3)) (C := RX1) (T := TX1) (N := 14) hx hb hts in_X1_isWitch_X1 hown hK hP 0 rfl rfl 5 (by decide) (hts (.fieldLink RX1 50 "WitchTrial" "witchSet" "I") (List.mem_of_getElem? (i := 1) rfl)) (fun _ h9 => h9) rfl dX1_isWitch_1 ?_
  refine lv_iload_n hx hb dX1_isWitch_4 rfl (lv_at hl 1 rfl) ?_
  refine rd_S (As := [.int q]) (rest := [.int (a 3)]) ⟨hx, hb, hml, hown, hts⟩ (c_X1_setOf l D cI cZ cJ q) (va_cwS 1 hts gX1_isWitch_X1_setOf rfl rfl rfl (by decide +kernel) ⟨Nat.le_of_ble_eq_true rfl, Nat.le_of_ble_eq_true rfl⟩) (hP.sub (ws' := []) [] rfl) hK hN rfl hl.1 rfl (Nat.le_of_ble_eq_true rfl) dX1_isWitch_5 ⟨Nat.le_of_ble_eq_true rfl, Nat.le_of_ble_eq_true rfl⟩ ?_
  refine lv_iand hx hb dX1_isWitch_8 ?_
  refine lv_if_eq (tgt := 16) hx hb dX1_isWitch_9 (by decide) (fun c_1 => ?_) (fun c_1 => ?_)
  · refine lv_iconst (v := 0) hx hb dX1_isWitch_16 (by decide) ?_
    exact rd_zret hx hb hr hlocks (by (first | rfl | (simp only [yIn, bI, c_1, eq_self, ↓reduceIte]; done) | (simp only [yIn, bI, c_1, eq_self, ↓reduceIte]; rfl) | (simp only [yIn, bI, eq_true c_1, eq_self, ↓reduceIte]; done) | (simp only [yIn, bI, eq_true c_1, eq_self, ↓reduceIte]; rfl) | (simp [yIn, bI, eq_true c_1]; done) | simp [yIn, bI, c_1])) rfl dX1_isWitch_17
  · refine lv_iconst (v := 1) hx hb dX1_isWitch_12 (by decide) ?_
    refine lv_goto (tgt := 17) hx hb dX1_isWitch_13 (by decide) ?_
    exact rd_zret hx hb hr hlocks (by (first | rfl | (simp only [yIn, bI, c_1, eq_self, ↓reduceIte]; done) | (simp only [yIn, bI, c_1, eq_self, ↓reduceIte]; rfl) | simp [yIn, bI, c_1])) rfl dX1_isWitch_17

theorem in_X1_knownBits_X1 : ∀ w ∈ wsX10, w ∈ wsX1_knownBits := by decide +kernel
set_option maxHeartbeats 2000000 in
set_option maxRecDepth 100000 in
theorem c_X1_knownBits (l : Launch) (D : va_G) (cI cZ cJ : ClassId) (hT : Nat) (hB : Nat) (hV : Nat) (a : Nat → Int32) (q : Int32)  : Rd l D cI cZ cJ yX1_knownBits wsX1_knownBits 2 41 [.ref hT, .int q] [cT hT hB hV a] (yKn a q) := by
  refine rd_of (by decide) rfl (Nat.le_of_ble_eq_true rfl) (fun p e s m below meth c ls hx hb hr hml hts hown hlocks hP hK hN hl => ?_)
  have hl : lv_has ls 3 [(0, .ref hT), (1, .int q)] := hl
  refine lv_aload_n hx hb dX1_knownBits_0 rfl (lv_at hl 0 rfl) ?_
  refine va_get (D := D) (cl := vwCl) (ci := 1) (v := .int (a 2)) (C := RX1) (T := TX1) (N := 14) hx hb hts in_X1_knownBits_X1 hown hK hP 0 rfl rfl 4 (by decide) (hts (.fieldLink RX1 47 "WitchTrial" "playerCount" "I") (List.mem_of_getElem? (i := 1) rfl)) (fun _ h9 => h9) rfl dX1_knownBits_1 ?_
  refine rd_S (As := [.int (a 2)]) (rest := []) ⟨hx, hb, hml, hown, hts⟩ (c_X1_everyone l D cI cZ cJ (a 2)) (va_cwS 1 hts gX1_knownBits_X1_everyone rfl rfl rfl (by decide +kernel) ⟨Nat.le_of_ble_eq_true rfl, Nat.le_of_ble_eq_true rfl⟩) (hP.sub (ws' := []) [] rfl) hK hN rfl hl.1 rfl (Nat.le_of_ble_eq_true rfl) dX1_knownBits_4 ⟨Nat.le_of_ble_eq_true rfl, Nat.le_of_ble_eq_true rfl⟩ ?_
  refine lv_aload_n hx hb dX1_knownBits_7 rfl (lv_at hl 0 rfl) ?_
  refine va_get (D := D) (cl := vwCl) (ci := 1) (v := .int (a 6)) (C := RX1) (T := TX1) (N := 14) hx hb hts in_X1_knownBits_X1 hown hK hP 0 rfl rfl 8 (by decide) (hts (.fieldLink RX1 63 "WitchTrial" "aliveSet" "I") (List.mem_of_getElem? (i := 2) rfl)) (fun _ h9 => h9) rfl dX1_knownBits_8 ?_
  refine lv_iconst (v := (-1)) hx hb dX1_knownBits_11 (by decide) ?_
  refine lv_ixor hx hb dX1_knownBits_12 ?_
  refine lv_iand hx hb dX1_knownBits_13 ?_
  refine rd_S (As := [.int ((xAll (a 2)) &&& ((a 6) ^^^ (-1)))]) (rest := []) ⟨hx, hb, hml, hown, hts⟩ (c_X1_roleBits l D cI cZ cJ ((xAll (a 2)) &&& ((a 6) ^^^ (-1)))) (va_cwS 1 hts gX1_knownBits_X1_roleBits rfl rfl rfl (by decide +kernel) ⟨Nat.le_of_ble_eq_true rfl, Nat.le_of_ble_eq_true rfl⟩) (hP.sub (ws' := []) [] rfl) hK hN rfl hl.1 rfl (Nat.le_of_ble_eq_true rfl) dX1_knownBits_14 ⟨Nat.le_of_ble_eq_true rfl, Nat.le_of_ble_eq_true rfl⟩ ?_
  refine lv_istore_n (lv' := [(2, .int (yRb ((xAll (a 2)) &&& ((a 6) ^^^ (-1))))), (0, .ref hT), (1, .int q)]) hx hb dX1_knownBits_17 rfl hl (by decide) rfl (fun ls hl => ?_)
  refine lv_iload_n hx hb dX1_knownBits_18 rfl (lv_at hl 2 rfl) ?_
  refine lv_iconst (v := (-1)) hx hb dX1_knownBits_19 (by decide) ?_
  refine lv_icmp_ne (tgt := 25) hx hb dX1_knownBits_20 (by decide) (fun c_1 => ?_) (fun c_1 => ?_)
  · refine lv_iload_n hx hb dX1_knownBits_25 rfl (lv_at hl 0 rfl) ?_
    refine lv_iload_n hx hb dX1_knownBits_26 rfl (lv_at hl 2 rfl) ?_
    refine rd_S (As := [.int q]) (rest := [.int (yRb ((xAll (a 2)) &&& ((a 6) ^^^ (-1))))]) ⟨hx, hb, hml, hown, hts⟩ (c_X1_setOf l D cI cZ cJ q) (va_cwS 1 hts gX1_knownBits_X1_setOf rfl rfl rfl (by decide +kernel) ⟨Nat.le_of_ble_eq_true rfl, Nat.le_of_ble_eq_true rfl⟩) (hP.sub (ws' := []) [] rfl) hK hN rfl hl.1 rfl (Nat.le_of_ble_eq_true rfl) dX1_knownBits_27 ⟨Nat.le_of_ble_eq_true rfl, Nat.le_of_ble_eq_true rfl⟩ ?_
    refine rd_S (As := [.int (yOf q)]) (rest := [.int (yRb ((xAll (a 2)) &&& ((a 6) ^^^ (-1))))]) ⟨hx, hb, hml, hown, hts⟩ (c_X1_roleBits l D cI cZ cJ (yOf q)) (va_cwS 1 hts gX1_knownBits_X1_roleBits rfl rfl rfl (by decide +kernel) ⟨Nat.le_of_ble_eq_true rfl, Nat.le_of_ble_eq_true rfl⟩) (hP.sub (ws' := []) [] rfl) hK hN rfl hl.1 rfl (Nat.le_of_ble_eq_true rfl) dX1_knownBits_30 ⟨Nat.le_of_ble_eq_true rfl, Nat.le_of_ble_eq_true rfl⟩ ?_
    refine lv_ior hx hb dX1_knownBits_33 ?_
    refine lv_istore_n (lv' := [(2, .int ((yRb ((xAll (a 2)) &&& ((a 6) ^^^ (-1)))) ||| (yRb (yOf q)))), (0, .ref hT), (1, .int q)]) hx hb dX1_knownBits_34 rfl hl (by decide) rfl (fun ls hl => ?_)
    refine lv_aload_n hx hb dX1_knownBits_35 rfl (lv_at hl 1 rfl) ?_
    refine lv_iload_n hx hb dX1_knownBits_36 rfl (lv_at hl 2 rfl) ?_
    refine rd_V (b := hT) (As := [.int q]) (rest := []) ⟨hx, hb, hml, hown, hts⟩ (c_X1_isWitch l D cI cZ cJ hT hB hV a q) (cwV 1 hts gX1_knownBits_X1_isWitch rfl rfl rfl (by decide +kernel) ⟨Nat.le_of_ble_eq_true rfl, Nat.le_of_ble_eq_true rfl⟩) (hP.sub (ws' := [cT hT hB hV a]) [0] rfl) hK hN (va_recv hK hP (ci := 1) (q0 := 0) rfl rfl) rfl hl.1 rfl (Nat.le_of_ble_eq_true rfl) dX1_knownBits_37 ⟨Nat.le_of_ble_eq_true rfl, Nat.le_of_ble_eq_true rfl⟩ ?_
    refine lv_if_eq (tgt := 49) hx hb dX1_knownBits_40 (by decide) (fun c_2 => ?_) (fun c_2 => ?_)
    · have c_2 : (yIn (a 3) q) = false := bI_0 c_2
      refine lv_iload_n hx hb dX1_knownBits_49 rfl (lv_at hl 2 rfl) ?_
      refine lv_aload_n hx hb dX1_knownBits_50 rfl (lv_at hl 1 rfl) ?_
      refine va_get (D := D) (cl := vwCl) (ci := 1) (v := .int (a 4)) (C := RX1) (T := TX1) (N := 14) hx hb hts in_X1_knownBits_X1 hown hK hP 0 rfl rfl 6 (by decide) (hts (.fieldLink RX1 53 "WitchTrial" "seerPlayer" "I") (List.mem_of_getElem? (i := 3) rfl)) (fun _ h9 => h9) rfl dX1_knownBits_51 ?_
      refine lv_icmp_ne (tgt := 66) hx hb dX1_knownBits_54 (by decide) (fun c_3 => ?_) (fun c_3 => ?_)
      · refine lv_iload_n hx hb dX1_knownBits_66 rfl (lv_at hl 0 rfl) ?_
        exact rd_iret hx hb hr hlocks (by (first | rfl | (simp only [yKn, yKd, bI, c_1, c_2, c_3, eq_self, ↓reduceIte]; done) | (simp only [yKn, yKd, bI, c_1, c_2, c_3, eq_self, ↓reduceIte]; rfl) | simp [yKn, yKd, bI, c_1, c_2, c_3])) dX1_knownBits_67
      · refine lv_iload_n hx hb dX1_knownBits_57 rfl (lv_at hl 0 rfl) ?_
        refine lv_aload_n hx hb dX1_knownBits_58 rfl (lv_at hl 1 rfl) ?_
        refine va_get (D := D) (cl := vwCl) (ci := 1) (v := .int (a 7)) (C := RX1) (T := TX1) (N := 14) hx hb hts in_X1_knownBits_X1 hown hK hP 0 rfl rfl 9 (by decide) (hts (.fieldLink RX1 66 "WitchTrial" "lookedAtSet" "I") (List.mem_of_getElem? (i := 4) rfl)) (fun _ h9 => h9) rfl dX1_knownBits_59 ?_
        refine lv_ior hx hb dX1_knownBits_62 ?_
        refine lv_goto (tgt := 67) hx hb dX1_knownBits_63 (by decide) ?_
        exact rd_iret hx hb hr hlocks (by (first | rfl | (simp only [yKn, yKd, bI, c_1, c_2, eq_true c_3, eq_self, ↓reduceIte]; done) | (simp only [yKn, yKd, bI, c_1, c_2, eq_true c_3, eq_self, ↓reduceIte]; rfl) | simp [yKn, yKd, bI, c_1, c_2, eq_true c_3])) dX1_knownBits_67
    · have c_2 : (yIn (a 3) q) = true := bI_1 c_2
      refine lv_iload_n hx hb dX1_knownBits_43 rfl (lv_at hl 0 rfl) ?_
      refine lv_sipush (v := 255) hx hb dX1_knownBits_44 (by decide) ?_
      refine lv_ior hx hb dX1_knownBits_47 ?_
      exact rd_iret hx hb hr hlocks (by (first | rfl | (simp only [yKn, yKd, bI, c_1, c_2, eq_self, ↓reduceIte]; done) | (simp only [yKn, yKd, bI, c_1, c_2, eq_self, ↓reduceIte]; rfl) | simp [yKn, yKd, bI, c_1, c_2])) dX1_knownBits_48
  · refine lv_iload_n hx hb dX1_knownBits_23 rfl (lv_at hl 0 rfl) ?_
    exact rd_iret hx hb hr hlocks (by (first | rfl | (simp only [yKn, yKd, bI, eq_true c_1, eq_self, ↓reduceIte]; done) | (simp only [yKn, yKd, bI, eq_true c_1, eq_self, ↓reduceIte]; rfl) | simp [yKn, yKd, bI, eq_true c_1])) dX1_knownBits_24

theorem in_X1_countVotes_X1 : ∀ w ∈ wsX10, w ∈ wsX1_countVotes := by decide +kernel
set_option maxHeartbeats 2000000 in
set_option maxRecDepth 100000 in
theorem c_X1_countVotes (l : Launch) (D : va_G) (cI cZ cJ : ClassId) (hT : Nat) (hB : Nat) (hV : Nat) (a : Nat → Int32) (v : Nat → Int32) (q : Int32)  : Rd l D cI cZ cJ yX1_countVotes wsX1_countVotes 0 0 [.ref hT, .int q] [cT hT hB hV a, cA cI hV 8 v] (xMv v q 8) := by
  refine rd_of (by decide) rfl (Nat.le_of_ble_eq_true rfl) (fun p e s m below meth c ls hx hb hr hml hts hown hlocks hP hK hN hl => ?_)
  have hl : lv_has ls 7 [(0, .ref hT), (1, .int q)] := hl
  refine lv_iconst (v := 0) hx hb dX1_countVotes_0 (by decide) ?_
  refine lv_istore_n (lv' := [(2, .int 0), (0, .ref hT), (1, .int q)]) hx hb dX1_countVotes_1 rfl hl (by decide) rfl (fun ls hl => ?_)
  refine lv_aload_n hx hb dX1_countVotes_2 rfl (lv_at hl 1 rfl) ?_
  refine va_get (D := D) (cl := vwCl) (ci := 1) (v := .ref hV) (C := RX1) (T := TX1) (N := 14) hx hb hts in_X1_countVotes_X1 hown hK hP 0 rfl rfl 1 (by decide) (hts (.fieldLink RX1 16 "WitchTrial" "voteOf" "[I") (List.mem_of_getElem? (i := 1) rfl)) (fun _ h9 => h9) rfl dX1_countVotes_3 ?_
  refine lv_astore_n (lv' := [(3, .ref hV), (2, .int 0), (0, .ref hT), (1, .int q)]) hx hb dX1_countVotes_6 rfl hl (by decide) rfl (fun ls hl => ?_)
  refine lv_aload_n hx hb dX1_countVotes_7 rfl (lv_at hl 0 rfl) ?_
  refine va_alen (D := D) (cl := vwCl) hx hb hK hP 1 0 rfl rfl (v := 8) rfl dX1_countVotes_8 ?_
  refine lv_istore (lv' := [(4, .int 8), (3, .ref hV), (2, .int 0), (0, .ref hT), (1, .int q)]) hx hb dX1_countVotes_9 hl (by decide) rfl (fun ls hl => ?_)
  refine lv_iconst (v := 0) hx hb dX1_countVotes_11 (by decide) ?_
  refine lv_istore (lv' := [(5, .int 0), (4, .int 8), (3, .ref hV), (2, .int 0), (0, .ref hT), (1, .int q)]) hx hb dX1_countVotes_12 hl (by decide) rfl (fun ls hl => ?_)
  refine loop_R (nL := 7) (h := 14) 8 (fun i => [(0, .ref hT), (1, .int q), (2, .int (xMv v q i)), (3, .ref hV), (4, .int 8), (5, .int (nI i))]) (fun _ => True) (fun i hi hI ih_i ls hl => ?_) 0 (by omega) trivial ls ?_
  · have hl : lv_has ls 7 [(0, .ref hT), (1, .int q), (2, .int (xMv v q i)), (3, .ref hV), (4, .int 8), (5, .int (nI i))] := hl
    refine lv_iload hx hb dX1_countVotes_14 (lv_at hl 5 rfl) ?_
    refine lv_iload hx hb dX1_countVotes_16 (lv_at hl 4 rfl) ?_
    refine lv_icmp_ge (tgt := 42) hx hb dX1_countVotes_18 (by decide) (fun c_2 => ?_) (fun c_2 => ?_)
    · have hi9 : 8 = i := (geN hi (by omega) rfl c_2).symm
      subst hi9
      refine lv_iload_n hx hb dX1_countVotes_42 rfl (lv_at hl 2 rfl) ?_
      exact rd_iret hx hb hr hlocks (by rfl) dX1_countVotes_43
    · have hlt : i < 8 := ltN hi (by omega) rfl c_2
      refine lv_aload_n hx hb dX1_countVotes_21 rfl (lv_at hl 3 rfl) ?_
      refine lv_iload hx hb dX1_countVotes_22 (lv_at hl 5 rfl) ?_
      refine q_iald (D := D) (j := i) (v := (v i)) hx hb hK hP 1 0 rfl rfl (by omega) (Nat.le_of_ble_eq_true rfl) rfl dX1_countVotes_24 ?_
      refine lv_istore (lv' := [(6, .int (v i)), (0, .ref hT), (1, .int q), (2, .int (xMv v q i)), (3, .ref hV), (4, .int 8), (5, .int (nI i))]) hx hb dX1_countVotes_25 hl (by decide) rfl (fun ls hl => ?_)
      refine lv_iload hx hb dX1_countVotes_27 (lv_at hl 0 rfl) ?_
      refine lv_iload_n hx hb dX1_countVotes_29 rfl (lv_at hl 2 rfl) ?_
      refine lv_icmp_ne (tgt := 36) hx hb dX1_countVotes_30 (by decide) (fun c_3 => ?_) (fun c_3 => ?_)
      · refine lv_iinc (v := (nI (i + 1))) (lv' := [(5, .int (nI (i + 1))), (6, .int (v i)), (0, .ref hT), (1, .int q), (2, .int (xMv v q i)), (3, .ref hV), (4, .int 8)]) hx hb dX1_countVotes_36 hl (k := 6) rfl (nI_1 i) (by decide) rfl (fun ls hl => ?_)
        refine lv_goto (tgt := 14) hx hb dX1_countVotes_39 (by decide) ?_
        have eb_0 : (xMv v q (i + 1)) = (xMv v q i) := by (first | rfl | (simp only [bI, xMv, c_2, c_3, eq_self, ↓reduceIte]; done) | (simp only [bI, xMv, c_2, c_3, eq_self, ↓reduceIte]; rfl) | simp [bI, xMv, c_2, c_3])
        exact ih_i (by omega) trivial ls (by show lv_has ls 7 [(0, .ref hT), (1, .int q), (2, .int (xMv v q (i + 1))), (3, .ref hV), (4, .int 8), (5, .int (nI (i + 1)))]; rw [eb_0]; exact lv_sub hl [2, 3, 4, 5, 6, 0] rfl)
      · refine lv_iinc (v := ((xMv v q i) + 1)) (lv' := [(2, .int ((xMv v q i) + 1)), (6, .int (v i)), (0, .ref hT), (1, .int q), (3, .ref hV), (4, .int 8), (5, .int (nI i))]) hx hb dX1_countVotes_33 hl (k := 3) rfl rfl (by decide) rfl (fun ls hl => ?_)
        refine lv_iinc (v := (nI (i + 1))) (lv' := [(5, .int (nI (i + 1))), (2, .int ((xMv v q i) + 1)), (6, .int (v i)), (0, .ref hT), (1, .int q), (3, .ref hV), (4, .int 8)]) hx hb dX1_countVotes_36 hl (k := 6) rfl (nI_1 i) (by decide) rfl (fun ls hl => ?_)
        refine lv_goto (tgt := 14) hx hb dX1_countVotes_39 (by decide) ?_
        have eb_0 : (xMv v q (i + 1)) = ((xMv v q i) + 1) := by (first | rfl | (simp only [bI, xMv, c_2, c_3, eq_self, ↓reduceIte]; done) | (simp only [bI, xMv, c_2, c_3, eq_self, ↓reduceIte]; rfl) | (simp only [bI, xMv, c_2, eq_true c_3, eq_self, ↓reduceIte]; done) | (simp only [bI, xMv, c_2, eq_true c_3, eq_self, ↓reduceIte]; rfl) | (simp [bI, xMv, c_2, eq_true c_3]; done) | simp [bI, xMv, c_2, c_3])
        exact ih_i (by omega) trivial ls (by show lv_has ls 7 [(0, .ref hT), (1, .int q), (2, .int (xMv v q (i + 1))), (3, .ref hV), (4, .int 8), (5, .int (nI (i + 1)))]; rw [eb_0]; exact lv_sub hl [3, 4, 1, 5, 6, 0] rfl)
  · show lv_has ls 7 [(0, .ref hT), (1, .int q), (2, .int (xMv v q 0)), (3, .ref hV), (4, .int 8), (5, .int (nI 0))]
    have en_0 : (xMv v q 0) = 0 := by rfl
    rw [en_0]
    have en_1 : (nI 0) = 0 := by exact nI_0
    rw [en_1]
    exact lv_sub hl [4, 5, 3, 2, 1, 0] rfl

theorem in_X1_playerWithMostVotes_X1 : ∀ w ∈ wsX10, w ∈ wsX1_playerWithMostVotes := by decide +kernel
set_option maxHeartbeats 2000000 in
set_option maxRecDepth 100000 in
theorem c_X1_playerWithMostVotes (l : Launch) (D : va_G) (cI cZ cJ : ClassId) (hT : Nat) (hB : Nat) (hV : Nat) (a : Nat → Int32) (v : Nat → Int32) (n : Nat) (hn : a 2 = nI n) (hn8 : n ≤ 8) : Rd l D cI cZ cJ yX1_playerWithMostVotes wsX1_playerWithMostVotes 1 26 [.ref hT] [cT hT hB hV a, cA cI hV 8 v] ((xBM v n).1) := by
  refine rd_of (by decide) rfl (Nat.le_of_ble_eq_true rfl) (fun p e s m below meth c ls hx hb hr hml hts hown hlocks hP hK hN hl => ?_)
  have hl : lv_has ls 5 [(0, .ref hT)] := hl
  refine lv_iconst (v := (-1)) hx hb dX1_playerWithMostVotes_0 (by decide) ?_
  refine lv_istore_n (lv' := [(1, .int (-1)), (0, .ref hT)]) hx hb dX1_playerWithMostVotes_1 rfl hl (by decide) rfl (fun ls hl => ?_)
  refine lv_iconst (v := 0) hx hb dX1_playerWithMostVotes_2 (by decide) ?_
  refine lv_istore_n (lv' := [(2, .int 0), (1, .int (-1)), (0, .ref hT)]) hx hb dX1_playerWithMostVotes_3 rfl hl (by decide) rfl (fun ls hl => ?_)
  refine lv_iconst (v := 0) hx hb dX1_playerWithMostVotes_4 (by decide) ?_
  refine lv_istore_n (lv' := [(3, .int 0), (2, .int 0), (1, .int (-1)), (0, .ref hT)]) hx hb dX1_playerWithMostVotes_5 rfl hl (by decide) rfl (fun ls hl => ?_)
  refine loop_R (nL := 5) (h := 6) n (fun i => [(0, .ref hT), (1, .int ((xBM v i).1)), (2, .int ((xBM v i).2)), (3, .int (nI i))]) (fun _ => True) (fun i hi hI ih_i ls hl => ?_) 0 (by omega) trivial ls ?_
  · have hl : lv_has ls 5 [(0, .ref hT), (1, .int ((xBM v i).1)), (2, .int ((xBM v i).2)), (3, .int (nI i))] := hl
    refine lv_iload_n hx hb dX1_playerWithMostVotes_6 rfl (lv_at hl 3 rfl) ?_
    refine lv_aload_n hx hb dX1_playerWithMostVotes_7 rfl (lv_at hl 0 rfl) ?_
    refine va_get (D := D) (cl := vwCl) (ci := 1) (v := .int (a 2)) (C := RX1) (T := TX1) (N := 14) hx hb hts in_X1_playerWithMostVotes_X1 hown hK hP 0 rfl rfl 4 (by decide) (hts (.fieldLink RX1 47 "WitchTrial" "playerCount" "I") (List.mem_of_getElem? (i := 1) rfl)) (fun _ h9 => h9) rfl dX1_playerWithMostVotes_8 ?_
    refine lv_icmp_ge (tgt := 49) hx hb dX1_playerWithMostVotes_11 (by decide) (fun c_2 => ?_) (fun c_2 => ?_)
    · have hi9 : n = i := (geN hi (by omega) hn c_2).symm
      subst hi9
      refine lv_iload_n hx hb dX1_playerWithMostVotes_49 rfl (lv_at hl 1 rfl) ?_
      exact rd_iret hx hb hr hlocks (by rfl) dX1_playerWithMostVotes_50
    · have hlt : i < n := ltN hi (by omega) hn c_2
      refine lv_aload_n hx hb dX1_playerWithMostVotes_14 rfl (lv_at hl 0 rfl) ?_
      refine lv_iload_n hx hb dX1_playerWithMostVotes_15 rfl (lv_at hl 3 rfl) ?_
      refine rd_V (b := hT) (As := [.int (nI i)]) (rest := []) ⟨hx, hb, hml, hown, hts⟩ (c_X1_countVotes l D cI cZ cJ hT hB hV a v (nI i)) (cwV 1 hts gX1_playerWithMostVotes_X1_countVotes rfl rfl rfl (by decide +kernel) ⟨Nat.le_of_ble_eq_true rfl, Nat.le_of_ble_eq_true rfl⟩) (hP.sub (ws' := [cT hT hB hV a, cA cI hV 8 v]) [0, 1] rfl) hK hN (va_recv hK hP (ci := 1) (q0 := 0) rfl rfl) rfl hl.1 rfl (Nat.le_of_ble_eq_true rfl) dX1_playerWithMostVotes_16 ⟨Nat.le_of_ble_eq_true rfl, Nat.le_of_ble_eq_true rfl⟩ ?_
      refine lv_istore (lv' := [(4, .int (xMv v (nI i) 8)), (0, .ref hT), (1, .int ((xBM v i).1)), (2, .int ((xBM v i).2)), (3, .int (nI i))]) hx hb dX1_playerWithMostVotes_19 hl (by decide) rfl (fun ls hl => ?_)
      refine lv_iload hx hb dX1_playerWithMostVotes_21 (lv_at hl 0 rfl) ?_
      refine lv_iload_n hx hb dX1_playerWithMostVotes_23 rfl (lv_at hl 3 rfl) ?_
      refine lv_icmp_le (tgt := 35) hx hb dX1_playerWithMostVotes_24 (by decide) (fun c_3 => ?_) (fun c_3 => ?_)
      · refine lv_iload hx hb dX1_playerWithMostVotes_35 (lv_at hl 0 rfl) ?_
        refine lv_iload_n hx hb dX1_playerWithMostVotes_37 rfl (lv_at hl 3 rfl) ?_
        refine lv_icmp_ne (tgt := 43) hx hb dX1_playerWithMostVotes_38 (by decide) (fun c_4 => ?_) (fun c_4 => ?_)
        · refine lv_iinc (v := (nI (i + 1))) (lv' := [(3, .int (nI (i + 1))), (4, .int (xMv v (nI i) 8)), (0, .ref hT), (1, .int ((xBM v i).1)), (2, .int ((xBM v i).2))]) hx hb dX1_playerWithMostVotes_43 hl (k := 4) rfl (nI_1 i) (by decide) rfl (fun ls hl => ?_)
          refine lv_goto (tgt := 6) hx hb dX1_playerWithMostVotes_46 (by decide) ?_
          have eb_0 : (xBM v (i + 1)).1 = (xBM v i).1 := by (first | rfl | (simp only [bI, xBM, c_2, c_3, c_4, eq_self, ↓reduceIte]; done) | (simp only [bI, xBM, c_2, c_3, c_4, eq_self, ↓reduceIte]; rfl) | simp [bI, xBM, c_2, c_3, c_4])
          have eb_1 : (xBM v (i + 1)).2 = (xBM v i).2 := by (first | rfl | (simp only [bI, xBM, c_2, c_3, c_4, eq_self, ↓reduceIte]; done) | (simp only [bI, xBM, c_2, c_3, c_4, eq_self, ↓reduceIte]; rfl) | simp [bI, xBM, c_2, c_3, c_4])
          exact ih_i (by omega) trivial ls (by show lv_has ls 5 [(0, .ref hT), (1, .int ((xBM v (i + 1)).1)), (2, .int ((xBM v (i + 1)).2)), (3, .int (nI (i + 1)))]; rw [eb_0]; rw [eb_1]; exact lv_sub hl [2, 3, 4, 0] rfl)
        · refine lv_iconst (v := (-1)) hx hb dX1_playerWithMostVotes_41 (by decide) ?_
          refine lv_istore_n (lv' := [(1, .int (-1)), (4, .int (xMv v (nI i) 8)), (0, .ref hT), (2, .int ((xBM v i).2)), (3, .int (nI i))]) hx hb dX1_playerWithMostVotes_42 rfl hl (by decide) rfl (fun ls hl => ?_)
          refine lv_iinc (v := (nI (i + 1))) (lv' := [(3, .int (nI (i + 1))), (1, .int (-1)), (4, .int (xMv v (nI i) 8)), (0, .ref hT), (2, .int ((xBM v i).2))]) hx hb dX1_playerWithMostVotes_43 hl (k := 4) rfl (nI_1 i) (by decide) rfl (fun ls hl => ?_)
          refine lv_goto (tgt := 6) hx hb dX1_playerWithMostVotes_46 (by decide) ?_
          have eb_0 : (xBM v (i + 1)).1 = (-1) := by (first | rfl | (simp only [bI, xBM, c_2, c_3, c_4, eq_self, ↓reduceIte]; done) | (simp only [bI, xBM, c_2, c_3, c_4, eq_self, ↓reduceIte]; rfl) | (simp only [bI, xBM, c_2, c_3, eq_true c_4, eq_self, ↓reduceIte]; done) | (simp only [bI, xBM, c_2, c_3, eq_true c_4, eq_self, ↓reduceIte]; rfl) | (simp [bI, xBM, c_2, c_3, eq_true c_4]; done) | simp [bI, xBM, c_2, c_3, c_4])
          have eb_1 : (xBM v (i + 1)).2 = (xBM v i).2 := by (first | rfl | (simp only [bI, xBM, c_2, c_3, c_4, eq_self, ↓reduceIte]; done) | (simp only [bI, xBM, c_2, c_3, c_4, eq_self, ↓reduceIte]; rfl) | (simp only [bI, xBM, c_2, c_3, eq_true c_4, eq_self, ↓reduceIte]; done) | (simp only [bI, xBM, c_2, c_3, eq_true c_4, eq_self, ↓reduceIte]; rfl) | (simp [bI, xBM, c_2, c_3, eq_true c_4]; done) | simp [bI, xBM, c_2, c_3, c_4])
          exact ih_i (by omega) trivial ls (by show lv_has ls 5 [(0, .ref hT), (1, .int ((xBM v (i + 1)).1)), (2, .int ((xBM v (i + 1)).2)), (3, .int (nI (i + 1)))]; rw [eb_0]; rw [eb_1]; exact lv_sub hl [3, 1, 4, 0] rfl)
      · refine lv_iload hx hb dX1_playerWithMostVotes_27 (lv_at hl 0 rfl) ?_
        refine lv_istore_n (lv' := [(2, .int (xMv v (nI i) 8)), (4, .int (xMv v (nI i) 8)), (0, .ref hT), (1, .int ((xBM v i).1)), (3, .int (nI i))]) hx hb dX1_playerWithMostVotes_29 rfl hl (by decide) rfl (fun ls hl => ?_)
        refine lv_iload_n hx hb dX1_playerWithMostVotes_30 rfl (lv_at hl 4 rfl) ?_
        refine lv_istore_n (lv' := [(1, .int (nI i)), (2, .int (xMv v (nI i) 8)), (4, .int (xMv v (nI i) 8)), (0, .ref hT), (3, .int (nI i))]) hx hb dX1_playerWithMostVotes_31 rfl hl (by decide) rfl (fun ls hl => ?_)
        refine lv_goto (tgt := 43) hx hb dX1_playerWithMostVotes_32 (by decide) ?_
        refine lv_iinc (v := (nI (i + 1))) (lv' := [(3, .int (nI (i + 1))), (1, .int (nI i)), (2, .int (xMv v (nI i) 8)), (4, .int (xMv v (nI i) 8)), (0, .ref hT)]) hx hb dX1_playerWithMostVotes_43 hl (k := 4) rfl (nI_1 i) (by decide) rfl (fun ls hl => ?_)
        refine lv_goto (tgt := 6) hx hb dX1_playerWithMostVotes_46 (by decide) ?_
        have eb_0 : (xBM v (i + 1)).1 = (nI i) := by (first | rfl | (simp only [bI, xBM, c_2, c_3, eq_self, ↓reduceIte]; done) | (simp only [bI, xBM, c_2, c_3, eq_self, ↓reduceIte]; rfl) | simp [bI, xBM, c_2, c_3])
        have eb_1 : (xBM v (i + 1)).2 = (xMv v (nI i) 8) := by (first | rfl | (simp only [bI, xBM, c_2, c_3, eq_self, ↓reduceIte]; done) | (simp only [bI, xBM, c_2, c_3, eq_self, ↓reduceIte]; rfl) | simp [bI, xBM, c_2, c_3])
        exact ih_i (by omega) trivial ls (by show lv_has ls 5 [(0, .ref hT), (1, .int ((xBM v (i + 1)).1)), (2, .int ((xBM v (i + 1)).2)), (3, .int (nI (i + 1)))]; rw [eb_0]; rw [eb_1]; exact lv_sub hl [4, 1, 2, 0] rfl)
  · show lv_has ls 5 [(0, .ref hT), (1, .int ((xBM v 0).1)), (2, .int ((xBM v 0).2)), (3, .int (nI 0))]
    have en_0 : (xBM v 0).1 = (-1) := by rfl
    rw [en_0]
    have en_1 : (xBM v 0).2 = 0 := by rfl
    rw [en_1]
    have en_2 : (nI 0) = 0 := by exact nI_0
    rw [en_2]
    exact lv_sub hl [3, 2, 1, 0] rfl

theorem in_X1_requireGame_X1 : ∀ w ∈ wsX10, w ∈ wsX1_requireGame := by decide +kernel
set_option maxHeartbeats 2000000 in
set_option maxRecDepth 100000 in
theorem c_X1_requireGame (l : Launch) (D : va_G) (cI cZ cJ : ClassId) (hT : Nat) (hB : Nat) (hV : Nat) (a : Nat → Int32) (hk : ¬ a 0 = 0) : Rv l D cI cZ cJ yX1_requireGame wsX1_requireGame 0 0 [.ref hT] [cT hT hB hV a] := by
  refine rv_of (by decide) rfl (Nat.le_of_ble_eq_true rfl) (fun p e s m below meth c ls hx hb hr hml hts hown hlocks hP hK hN hl => ?_)
  have hl : lv_has ls 1 [(0, .ref hT)] := hl
  refine lv_aload_n hx hb dX1_requireGame_0 rfl (lv_at hl 0 rfl) ?_
  refine va_get (D := D) (cl := vwCl) (ci := 1) (v := .int (a 0)) (C := RX1) (T := TX1) (N := 14) hx hb hts in_X1_requireGame_X1 hown hK hP 0 rfl rfl 2 (by decide) (hts (.fieldLink RX1 20 "WitchTrial" "phase" "I") (List.mem_of_getElem? (i := 3) rfl)) (fun _ h9 => h9) rfl dX1_requireGame_1 ?_
  refine lv_if_ne (tgt := 17) hx hb dX1_requireGame_4 (by decide) (fun c_1 => ?_) (fun c_1 => ?_)
  · exact rv_ret hx hb hr hlocks dX1_requireGame_17
  · exact absurd c_1 hk

theorem in_X1_requirePhase_X1 : ∀ w ∈ wsX10, w ∈ wsX1_requirePhase := by decide +kernel
set_option maxHeartbeats 2000000 in
set_option maxRecDepth 100000 in
theorem c_X1_requirePhase (l : Launch) (D : va_G) (cI cZ cJ : ClassId) (hT : Nat) (hB : Nat) (hV : Nat) (a : Nat → Int32) (k : Int32) (hk : a 0 = k) : Rv l D cI cZ cJ yX1_requirePhase wsX1_requirePhase 0 0 [.ref hT, .int k] [cT hT hB hV a] := by
  refine rv_of (by decide) rfl (Nat.le_of_ble_eq_true rfl) (fun p e s m below meth c ls hx hb hr hml hts hown hlocks hP hK hN hl => ?_)
  have hl : lv_has ls 2 [(0, .ref hT), (1, .int k)] := hl
  refine lv_aload_n hx hb dX1_requirePhase_0 rfl (lv_at hl 0 rfl) ?_
  refine va_get (D := D) (cl := vwCl) (ci := 1) (v := .int (a 0)) (C := RX1) (T := TX1) (N := 14) hx hb hts in_X1_requirePhase_X1 hown hK hP 0 rfl rfl 2 (by decide) (hts (.fieldLink RX1 20 "WitchTrial" "phase" "I") (List.mem_of_getElem? (i := 3) rfl)) (fun _ h9 => h9) rfl dX1_requirePhase_1 ?_
  refine lv_iload_n hx hb dX1_requirePhase_4 rfl (lv_at hl 1 rfl) ?_
  refine lv_icmp_eq (tgt := 18) hx hb dX1_requirePhase_5 (by decide) (fun c_1 => ?_) (fun c_1 => ?_)
  · exact rv_ret hx hb hr hlocks dX1_requirePhase_18
  · exact absurd hk c_1

theorem in_X1_requireToLive_X1 : ∀ w ∈ wsX10, w ∈ wsX1_requireToLive := by decide +kernel
set_option maxHeartbeats 2000000 in
set_option maxRecDepth 100000 in
theorem c_X1_requireToLive (l : Launch) (D : va_G) (cI cZ cJ : ClassId) (hT : Nat) (hB : Nat) (hV : Nat) (a : Nat → Int32) (q : Int32) (hk : yIn (a 6) q = true) : Rv l D cI cZ cJ yX1_requireToLive wsX1_requireToLive 2 41 [.ref hT, .int q] [cT hT hB hV a] := by
  refine rv_of (by decide) rfl (Nat.le_of_ble_eq_true rfl) (fun p e s m below meth c ls hx hb hr hml hts hown hlocks hP hK hN hl => ?_)
  have hl : lv_has ls 2 [(0, .ref hT), (1, .int q)] := hl
  refine lv_aload_n hx hb dX1_requireToLive_0 rfl (lv_at hl 0 rfl) ?_
  refine lv_iload_n hx hb dX1_requireToLive_1 rfl (lv_at hl 1 rfl) ?_
  refine rd_V (b := hT) (As := [.int q]) (rest := []) ⟨hx, hb, hml, hown, hts⟩ (c_X1_isAlive l D cI cZ cJ hT hB hV a q) (cwV 1 hts gX1_requireToLive_X1_isAlive rfl rfl rfl (by decide +kernel) ⟨Nat.le_of_ble_eq_true rfl, Nat.le_of_ble_eq_true rfl⟩) (hP.sub (ws' := [cT hT hB hV a]) [0] rfl) hK hN (va_recv hK hP (ci := 1) (q0 := 0) rfl rfl) rfl hl.1 rfl (Nat.le_of_ble_eq_true rfl) dX1_requireToLive_2 ⟨Nat.le_of_ble_eq_true rfl, Nat.le_of_ble_eq_true rfl⟩ ?_
  refine lv_if_ne (tgt := 18) hx hb dX1_requireToLive_5 (by decide) (fun c_1 => ?_) (fun c_1 => ?_)
  · have c_1 : (yIn (a 6) q) = true := bI_1 c_1
    exact rv_ret hx hb hr hlocks dX1_requireToLive_18
  · have c_1 : (yIn (a 6) q) = false := bI_0 c_1
    rw [hk] at c_1; cases c_1

theorem in_X1_requirePlayer_X1 : ∀ w ∈ wsX10, w ∈ wsX1_requirePlayer := by decide +kernel
set_option maxHeartbeats 2000000 in
set_option maxRecDepth 100000 in
theorem c_X1_requirePlayer (l : Launch) (D : va_G) (cI cZ cJ : ClassId) (hT : Nat) (hB : Nat) (hV : Nat) (a : Nat → Int32) (q : Int32) (hk : yPl a q = true) : Rv l D cI cZ cJ yX1_requirePlayer wsX1_requirePlayer 0 0 [.ref hT, .int q] [cT hT hB hV a] := by
  refine rv_of (by decide) rfl (Nat.le_of_ble_eq_true rfl) (fun p e s m below meth c ls hx hb hr hml hts hown hlocks hP hK hN hl => ?_)
  have hl : lv_has ls 2 [(0, .ref hT), (1, .int q)] := hl
  refine lv_iload_n hx hb dX1_requirePlayer_0 rfl (lv_at hl 1 rfl) ?_
  refine lv_if_lt (tgt := 12) hx hb dX1_requirePlayer_1 (by decide) (fun c_1 => ?_) (fun c_1 => ?_)
  · exact absurd hk (by simp [yPl, bI, c_1])
  · refine lv_iload_n hx hb dX1_requirePlayer_4 rfl (lv_at hl 1 rfl) ?_
    refine lv_aload_n hx hb dX1_requirePlayer_5 rfl (lv_at hl 0 rfl) ?_
    refine va_get (D := D) (cl := vwCl) (ci := 1) (v := .int (a 2)) (C := RX1) (T := TX1) (N := 14) hx hb hts in_X1_requirePlayer_X1 hown hK hP 0 rfl rfl 4 (by decide) (hts (.fieldLink RX1 47 "WitchTrial" "playerCount" "I") (List.mem_of_getElem? (i := 3) rfl)) (fun _ h9 => h9) rfl dX1_requirePlayer_6 ?_
    refine lv_icmp_lt (tgt := 22) hx hb dX1_requirePlayer_9 (by decide) (fun c_2 => ?_) (fun c_2 => ?_)
    · exact rv_ret hx hb hr hlocks dX1_requirePlayer_22
    · exact absurd hk (by simp [yPl, bI, c_1, c_2])

theorem in_X1_requireViewer_X1 : ∀ w ∈ wsX10, w ∈ wsX1_requireViewer := by decide +kernel
set_option maxHeartbeats 2000000 in
set_option maxRecDepth 100000 in
theorem c_X1_requireViewer (l : Launch) (D : va_G) (cI cZ cJ : ClassId) (hT : Nat) (hB : Nat) (hV : Nat) (a : Nat → Int32) (q : Int32) (hk : yVw a q = true) : Rv l D cI cZ cJ yX1_requireViewer wsX1_requireViewer 1 21 [.ref hT, .int q] [cT hT hB hV a] := by
  refine rv_of (by decide) rfl (Nat.le_of_ble_eq_true rfl) (fun p e s m below meth c ls hx hb hr hml hts hown hlocks hP hK hN hl => ?_)
  have hl : lv_has ls 2 [(0, .ref hT), (1, .int q)] := hl
  refine lv_iload_n hx hb dX1_requireViewer_0 rfl (lv_at hl 1 rfl) ?_
  refine lv_iconst (v := (-1)) hx hb dX1_requireViewer_1 (by decide) ?_
  refine lv_icmp_eq (tgt := 10) hx hb dX1_requireViewer_2 (by decide) (fun c_1 => ?_) (fun c_1 => ?_)
  · exact rv_ret hx hb hr hlocks dX1_requireViewer_10
  · refine lv_aload_n hx hb dX1_requireViewer_5 rfl (lv_at hl 0 rfl) ?_
    refine lv_iload_n hx hb dX1_requireViewer_6 rfl (lv_at hl 1 rfl) ?_
    refine rv_V (b := hT) (As := [.int q]) (rest := []) ⟨hx, hb, hml, hown, hts⟩ (c_X1_requirePlayer l D cI cZ cJ hT hB hV a q (by simpa [yVw, c_1] using hk)) (cwV 1 hts gX1_requireViewer_X1_requirePlayer rfl rfl rfl (by decide +kernel) ⟨Nat.le_of_ble_eq_true rfl, Nat.le_of_ble_eq_true rfl⟩) (hP.sub (ws' := [cT hT hB hV a]) [0] rfl) hK hN (va_recv hK hP (ci := 1) (q0 := 0) rfl rfl) rfl hl.1 rfl (Nat.le_of_ble_eq_true rfl) dX1_requireViewer_7 ⟨Nat.le_of_ble_eq_true rfl, Nat.le_of_ble_eq_true rfl⟩ ?_
    exact rv_ret hx hb hr hlocks dX1_requireViewer_10
