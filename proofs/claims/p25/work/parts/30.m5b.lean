set_option maxHeartbeats 2000000 in
set_option maxRecDepth 100000 in
theorem c_X1_setOf (l : Launch) (D : va_G) (cI cZ cJ : ClassId) (q : Int32)  : Rd l D cI cZ cJ yX1_setOf wsX1_setOf 0 0 [.int q] [] (yOf q) := by
  refine rd_of (by decide) rfl (Nat.le_of_ble_eq_true rfl) (fun p e s m below meth c ls hx hb hr hml hts hown hlocks hP hK hN hl => ?_)
  have hl : lv_has ls 1 [(0, .int q)] := hl
  refine lv_iconst (v := 1) hx hb dX1_setOf_0 (by decide) ?_
  refine lv_iload_n hx hb dX1_setOf_1 rfl (lv_at hl 0 rfl) ?_
  refine lv_ishl hx hb dX1_setOf_2 ?_
  exact rd_iret hx hb hr hlocks (by rfl) dX1_setOf_3

set_option maxHeartbeats 2000000 in
set_option maxRecDepth 100000 in
theorem c_X1_everyone (l : Launch) (D : va_G) (cI cZ cJ : ClassId) (pl : Int32)  : Rd l D cI cZ cJ yX1_everyone wsX1_everyone 0 0 [.int pl] [] (xAll pl) := by
  refine rd_of (by decide) rfl (Nat.le_of_ble_eq_true rfl) (fun p e s m below meth c ls hx hb hr hml hts hown hlocks hP hK hN hl => ?_)
  have hl : lv_has ls 1 [(0, .int pl)] := hl
  refine lv_iconst (v := 1) hx hb dX1_everyone_0 (by decide) ?_
  refine lv_iload_n hx hb dX1_everyone_1 rfl (lv_at hl 0 rfl) ?_
  refine lv_ishl hx hb dX1_everyone_2 ?_
  refine lv_iconst (v := 1) hx hb dX1_everyone_3 (by decide) ?_
  refine lv_isub hx hb dX1_everyone_4 ?_
  exact rd_iret hx hb hr hlocks (by rfl) dX1_everyone_5

set_option maxHeartbeats 2000000 in
set_option maxRecDepth 100000 in
theorem c_X1_witchesOf (l : Launch) (D : va_G) (cI cZ cJ : ClassId) (x : Int32)  : Rd l D cI cZ cJ yX1_witchesOf wsX1_witchesOf 0 0 [.int x] [] ((x &&& 255)) := by
  refine rd_of (by decide) rfl (Nat.le_of_ble_eq_true rfl) (fun p e s m below meth c ls hx hb hr hml hts hown hlocks hP hK hN hl => ?_)
  have hl : lv_has ls 1 [(0, .int x)] := hl
  refine lv_iload_n hx hb dX1_witchesOf_0 rfl (lv_at hl 0 rfl) ?_
  refine lv_sipush (v := 255) hx hb dX1_witchesOf_1 (by decide) ?_
  refine lv_iand hx hb dX1_witchesOf_4 ?_
  exact rd_iret hx hb hr hlocks (by rfl) dX1_witchesOf_5

set_option maxHeartbeats 2000000 in
set_option maxRecDepth 100000 in
theorem c_X1_roleBits (l : Launch) (D : va_G) (cI cZ cJ : ClassId) (x : Int32)  : Rd l D cI cZ cJ yX1_roleBits wsX1_roleBits 0 0 [.int x] [] (yRb x) := by
  refine rd_of (by decide) rfl (Nat.le_of_ble_eq_true rfl) (fun p e s m below meth c ls hx hb hr hml hts hown hlocks hP hK hN hl => ?_)
  have hl : lv_has ls 1 [(0, .int x)] := hl
  refine lv_iload_n hx hb dX1_roleBits_0 rfl (lv_at hl 0 rfl) ?_
  refine lv_iload_n hx hb dX1_roleBits_1 rfl (lv_at hl 0 rfl) ?_
  refine lv_bipush (v := 8) hx hb dX1_roleBits_2 (by decide) ?_
  refine lv_ishl hx hb dX1_roleBits_4 ?_
  refine lv_ior hx hb dX1_roleBits_5 ?_
  refine lv_iload_n hx hb dX1_roleBits_6 rfl (lv_at hl 0 rfl) ?_
  refine lv_bipush (v := 16) hx hb dX1_roleBits_7 (by decide) ?_
  refine lv_ishl hx hb dX1_roleBits_9 ?_
  refine lv_ior hx hb dX1_roleBits_10 ?_
  exact rd_iret hx hb hr hlocks (by rfl) dX1_roleBits_11

set_option maxHeartbeats 2000000 in
set_option maxRecDepth 100000 in
theorem c_X1_worldOf (l : Launch) (D : va_G) (cI cZ cJ : ClassId) (wi : Int32) (se : Int32) (gu : Int32)  : Rd l D cI cZ cJ yX1_worldOf wsX1_worldOf 1 20 [.int wi, .int se, .int gu] [] (yWo wi se gu) := by
  refine rd_of (by decide) rfl (Nat.le_of_ble_eq_true rfl) (fun p e s m below meth c ls hx hb hr hml hts hown hlocks hP hK hN hl => ?_)
  have hl : lv_has ls 3 [(0, .int wi), (1, .int se), (2, .int gu)] := hl
  refine lv_iload_n hx hb dX1_worldOf_0 rfl (lv_at hl 0 rfl) ?_
  refine lv_iload_n hx hb dX1_worldOf_1 rfl (lv_at hl 1 rfl) ?_
  refine rd_S (As := [.int se]) (rest := [.int wi]) ⟨hx, hb, hml, hown, hts⟩ (c_X1_setOf l D cI cZ cJ se) (va_cwS 1 hts gX1_worldOf_X1_setOf rfl rfl rfl (by decide +kernel) ⟨Nat.le_of_ble_eq_true rfl, Nat.le_of_ble_eq_true rfl⟩) (hP.sub (ws' := []) [] rfl) hK hN rfl hl.1 rfl (Nat.le_of_ble_eq_true rfl) dX1_worldOf_2 ⟨Nat.le_of_ble_eq_true rfl, Nat.le_of_ble_eq_true rfl⟩ ?_
  refine lv_bipush (v := 8) hx hb dX1_worldOf_5 (by decide) ?_
  refine lv_ishl hx hb dX1_worldOf_7 ?_
  refine lv_ior hx hb dX1_worldOf_8 ?_
  refine lv_iload_n hx hb dX1_worldOf_9 rfl (lv_at hl 2 rfl) ?_
  refine rd_S (As := [.int gu]) (rest := [.int (wi ||| ((yOf se) <<< ((8 : Int32) &&& 31)))]) ⟨hx, hb, hml, hown, hts⟩ (c_X1_setOf l D cI cZ cJ gu) (va_cwS 1 hts gX1_worldOf_X1_setOf rfl rfl rfl (by decide +kernel) ⟨Nat.le_of_ble_eq_true rfl, Nat.le_of_ble_eq_true rfl⟩) (hP.sub (ws' := []) [] rfl) hK hN rfl hl.1 rfl (Nat.le_of_ble_eq_true rfl) dX1_worldOf_10 ⟨Nat.le_of_ble_eq_true rfl, Nat.le_of_ble_eq_true rfl⟩ ?_
  refine lv_bipush (v := 16) hx hb dX1_worldOf_13 (by decide) ?_
  refine lv_ishl hx hb dX1_worldOf_15 ?_
  refine lv_ior hx hb dX1_worldOf_16 ?_
  exact rd_iret hx hb hr hlocks (by rfl) dX1_worldOf_17

set_option maxHeartbeats 2000000 in
set_option maxRecDepth 100000 in
theorem c_X1_bitOfRole (l : Launch) (D : va_G) (cI cZ cJ : ClassId) (q : Int32) (k : Int32)  : Rd l D cI cZ cJ yX1_bitOfRole wsX1_bitOfRole 1 20 [.int q, .int k] [] (yBr q k) := by
  refine rd_of (by decide) rfl (Nat.le_of_ble_eq_true rfl) (fun p e s m below meth c ls hx hb hr hml hts hown hlocks hP hK hN hl => ?_)
  have hl : lv_has ls 2 [(0, .int q), (1, .int k)] := hl
  refine lv_iload_n hx hb dX1_bitOfRole_0 rfl (lv_at hl 1 rfl) ?_
  by_cases c_s1 : k = 1
  · refine lv_tableIn (off := 27) (tgt := 28) hx hb dX1_bitOfRole_1 (by rw [c_s1]; decide) (by rw [c_s1]; decide) (by rw [c_s1]; rfl) (by decide) ?_
    refine lv_iload_n hx hb dX1_bitOfRole_28 rfl (lv_at hl 0 rfl) ?_
    refine rd_S (As := [.int q]) (rest := []) ⟨hx, hb, hml, hown, hts⟩ (c_X1_setOf l D cI cZ cJ q) (va_cwS 1 hts gX1_bitOfRole_X1_setOf rfl rfl rfl (by decide +kernel) ⟨Nat.le_of_ble_eq_true rfl, Nat.le_of_ble_eq_true rfl⟩) (hP.sub (ws' := []) [] rfl) hK hN rfl hl.1 rfl (Nat.le_of_ble_eq_true rfl) dX1_bitOfRole_29 ⟨Nat.le_of_ble_eq_true rfl, Nat.le_of_ble_eq_true rfl⟩ ?_
    exact rd_iret hx hb hr hlocks (by (first | rfl | (simp only [yBr, bI, eq_true c_s1, eq_self, ↓reduceIte]; done) | (simp only [yBr, bI, eq_true c_s1, eq_self, ↓reduceIte]; rfl) | simp [yBr, bI, eq_true c_s1])) dX1_bitOfRole_32
  by_cases c_s2 : k = 2
  · refine lv_tableIn (off := 32) (tgt := 33) hx hb dX1_bitOfRole_1 (by rw [c_s2]; decide) (by rw [c_s2]; decide) (by rw [c_s2]; rfl) (by decide) ?_
    refine lv_iload_n hx hb dX1_bitOfRole_33 rfl (lv_at hl 0 rfl) ?_
    refine rd_S (As := [.int q]) (rest := []) ⟨hx, hb, hml, hown, hts⟩ (c_X1_setOf l D cI cZ cJ q) (va_cwS 1 hts gX1_bitOfRole_X1_setOf rfl rfl rfl (by decide +kernel) ⟨Nat.le_of_ble_eq_true rfl, Nat.le_of_ble_eq_true rfl⟩) (hP.sub (ws' := []) [] rfl) hK hN rfl hl.1 rfl (Nat.le_of_ble_eq_true rfl) dX1_bitOfRole_34 ⟨Nat.le_of_ble_eq_true rfl, Nat.le_of_ble_eq_true rfl⟩ ?_
    refine lv_bipush (v := 8) hx hb dX1_bitOfRole_37 (by decide) ?_
    refine lv_ishl hx hb dX1_bitOfRole_39 ?_
    exact rd_iret hx hb hr hlocks (by (first | rfl | (simp only [yBr, bI, c_s1, eq_true c_s2, eq_self, ↓reduceIte]; done) | (simp only [yBr, bI, c_s1, eq_true c_s2, eq_self, ↓reduceIte]; rfl) | simp [yBr, bI, c_s1, eq_true c_s2])) dX1_bitOfRole_40
  by_cases c_s3 : k = 3
  · refine lv_tableIn (off := 40) (tgt := 41) hx hb dX1_bitOfRole_1 (by rw [c_s3]; decide) (by rw [c_s3]; decide) (by rw [c_s3]; rfl) (by decide) ?_
    refine lv_iload_n hx hb dX1_bitOfRole_41 rfl (lv_at hl 0 rfl) ?_
    refine rd_S (As := [.int q]) (rest := []) ⟨hx, hb, hml, hown, hts⟩ (c_X1_setOf l D cI cZ cJ q) (va_cwS 1 hts gX1_bitOfRole_X1_setOf rfl rfl rfl (by decide +kernel) ⟨Nat.le_of_ble_eq_true rfl, Nat.le_of_ble_eq_true rfl⟩) (hP.sub (ws' := []) [] rfl) hK hN rfl hl.1 rfl (Nat.le_of_ble_eq_true rfl) dX1_bitOfRole_42 ⟨Nat.le_of_ble_eq_true rfl, Nat.le_of_ble_eq_true rfl⟩ ?_
    refine lv_bipush (v := 16) hx hb dX1_bitOfRole_45 (by decide) ?_
    refine lv_ishl hx hb dX1_bitOfRole_47 ?_
    exact rd_iret hx hb hr hlocks (by (first | rfl | (simp only [yBr, bI, c_s1, c_s2, eq_true c_s3, eq_self, ↓reduceIte]; done) | (simp only [yBr, bI, c_s1, c_s2, eq_true c_s3, eq_self, ↓reduceIte]; rfl) | simp [yBr, bI, c_s1, c_s2, eq_true c_s3])) dX1_bitOfRole_48
  refine lv_tableOut (tgt := 49) hx hb dX1_bitOfRole_1 (sw123 c_s1 c_s2 c_s3) (by decide) ?_
  refine lv_iconst (v := 0) hx hb dX1_bitOfRole_49 (by decide) ?_
  exact rd_iret hx hb hr hlocks (by (first | rfl | (simp only [yBr, bI, c_s1, c_s2, c_s3, eq_self, ↓reduceIte]; done) | (simp only [yBr, bI, c_s1, c_s2, c_s3, eq_self, ↓reduceIte]; rfl) | simp [yBr, bI, c_s1, c_s2, c_s3])) dX1_bitOfRole_50

set_option maxHeartbeats 2000000 in
set_option maxRecDepth 100000 in
theorem c_X1_claimedBits (l : Launch) (D : va_G) (cI cZ cJ : ClassId) (k : Int32) (r : Int32)  : Rd l D cI cZ cJ yX1_claimedBits wsX1_claimedBits 2 41 [.int k, .int r] [] (yCb k r) := by
  refine rd_of (by decide) rfl (Nat.le_of_ble_eq_true rfl) (fun p e s m below meth c ls hx hb hr hml hts hown hlocks hP hK hN hl => ?_)
  have hl : lv_has ls 2 [(0, .int k), (1, .int r)] := hl
  refine lv_iload_n hx hb dX1_claimedBits_0 rfl (lv_at hl 0 rfl) ?_
  by_cases c_s2 : k = 2
  · refine lv_lookup (off := 27) (tgt := 28) hx hb dX1_claimedBits_1 (by decide) (by rw [c_s2]; rfl) (by decide) ?_
    refine lv_iload_n hx hb dX1_claimedBits_28 rfl (lv_at hl 1 rfl) ?_
    refine lv_iconst (v := 2) hx hb dX1_claimedBits_29 (by decide) ?_
    refine rd_S (As := [.int r, .int 2]) (rest := []) ⟨hx, hb, hml, hown, hts⟩ (c_X1_bitOfRole l D cI cZ cJ r 2) (va_cwS 2 hts gX1_claimedBits_X1_bitOfRole rfl rfl rfl (by decide +kernel) ⟨Nat.le_of_ble_eq_true rfl, Nat.le_of_ble_eq_true rfl⟩) (hP.sub (ws' := []) [] rfl) hK hN rfl hl.1 rfl (Nat.le_of_ble_eq_true rfl) dX1_claimedBits_30 ⟨Nat.le_of_ble_eq_true rfl, Nat.le_of_ble_eq_true rfl⟩ ?_
    exact rd_iret hx hb hr hlocks (by (first | rfl | (simp only [yCb, bI, eq_true c_s2, eq_self, ↓reduceIte]; done) | (simp only [yCb, bI, eq_true c_s2, eq_self, ↓reduceIte]; rfl) | simp [yCb, bI, eq_true c_s2])) dX1_claimedBits_33
  by_cases c_s3 : k = 3
  · refine lv_lookup (off := 33) (tgt := 34) hx hb dX1_claimedBits_1 (by decide) (by rw [c_s3]; rfl) (by decide) ?_
    refine lv_iload_n hx hb dX1_claimedBits_34 rfl (lv_at hl 1 rfl) ?_
    refine lv_iconst (v := 3) hx hb dX1_claimedBits_35 (by decide) ?_
    refine rd_S (As := [.int r, .int 3]) (rest := []) ⟨hx, hb, hml, hown, hts⟩ (c_X1_bitOfRole l D cI cZ cJ r 3) (va_cwS 2 hts gX1_claimedBits_X1_bitOfRole rfl rfl rfl (by decide +kernel) ⟨Nat.le_of_ble_eq_true rfl, Nat.le_of_ble_eq_true rfl⟩) (hP.sub (ws' := []) [] rfl) hK hN rfl hl.1 rfl (Nat.le_of_ble_eq_true rfl) dX1_claimedBits_36 ⟨Nat.le_of_ble_eq_true rfl, Nat.le_of_ble_eq_true rfl⟩ ?_
    exact rd_iret hx hb hr hlocks (by (first | rfl | (simp only [yCb, bI, c_s2, eq_true c_s3, eq_self, ↓reduceIte]; done) | (simp only [yCb, bI, c_s2, eq_true c_s3, eq_self, ↓reduceIte]; rfl) | simp [yCb, bI, c_s2, eq_true c_s3])) dX1_claimedBits_39
  refine lv_lookup (off := 39) (tgt := 40) hx hb dX1_claimedBits_1 (by decide) (by show Op.lookupswitch.offset [(2, 27), (3, 33)] 39 k.toInt = 39; exact (lv_osw (d := 39) (r := [(3, 33)]) (o := 27) c_s2 rfl).trans (lv_osw (d := 39) (r := []) (o := 33) c_s3 rfl)) (by decide) ?_
  refine lv_iload_n hx hb dX1_claimedBits_40 rfl (lv_at hl 1 rfl) ?_
  refine lv_iconst (v := 1) hx hb dX1_claimedBits_41 (by decide) ?_
  refine rd_S (As := [.int r, .int 1]) (rest := []) ⟨hx, hb, hml, hown, hts⟩ (c_X1_bitOfRole l D cI cZ cJ r 1) (va_cwS 2 hts gX1_claimedBits_X1_bitOfRole rfl rfl rfl (by decide +kernel) ⟨Nat.le_of_ble_eq_true rfl, Nat.le_of_ble_eq_true rfl⟩) (hP.sub (ws' := []) [] rfl) hK hN rfl hl.1 rfl (Nat.le_of_ble_eq_true rfl) dX1_claimedBits_42 ⟨Nat.le_of_ble_eq_true rfl, Nat.le_of_ble_eq_true rfl⟩ ?_
  exact rd_iret hx hb hr hlocks (by (first | rfl | (simp only [yCb, bI, c_s2, c_s3, eq_self, ↓reduceIte]; done) | (simp only [yCb, bI, c_s2, c_s3, eq_self, ↓reduceIte]; rfl) | simp [yCb, bI, c_s2, c_s3])) dX1_claimedBits_45

set_option maxHeartbeats 2000000 in
set_option maxRecDepth 100000 in
theorem c_X1_isHonestIn (l : Launch) (D : va_G) (cI cZ cJ : ClassId) (pl : Int32) (wi : Int32) (q : Int32)  : Rd l D cI cZ cJ yX1_isHonestIn wsX1_isHonestIn 1 20 [.int pl, .int wi, .int q] [] (bI (yHo pl wi q)) := by
  refine rd_of (by decide) rfl (Nat.le_of_ble_eq_true rfl) (fun p e s m below meth c ls hx hb hr hml hts hown hlocks hP hK hN hl => ?_)
  have hl : lv_has ls 3 [(0, .int pl), (1, .int wi), (2, .int q)] := hl
  refine lv_iload_n hx hb dX1_isHonestIn_0 rfl (lv_at hl 2 rfl) ?_
  refine lv_if_lt (tgt := 22) hx hb dX1_isHonestIn_1 (by decide) (fun c_1 => ?_) (fun c_1 => ?_)
  · refine lv_iconst (v := 0) hx hb dX1_isHonestIn_22 (by decide) ?_
    exact rd_zret hx hb hr hlocks (by (first | rfl | (simp only [yHo, bI, c_1, eq_self, ↓reduceIte]; done) | (simp only [yHo, bI, c_1, eq_self, ↓reduceIte]; rfl) | simp [yHo, bI, c_1])) rfl dX1_isHonestIn_23
  · refine lv_iload_n hx hb dX1_isHonestIn_4 rfl (lv_at hl 2 rfl) ?_
    refine lv_iload_n hx hb dX1_isHonestIn_5 rfl (lv_at hl 0 rfl) ?_
    refine lv_icmp_ge (tgt := 22) hx hb dX1_isHonestIn_6 (by decide) (fun c_2 => ?_) (fun c_2 => ?_)
    · refine lv_iconst (v := 0) hx hb dX1_isHonestIn_22 (by decide) ?_
      exact rd_zret hx hb hr hlocks (by (first | rfl | (simp only [yHo, bI, c_1, c_2, eq_self, ↓reduceIte]; done) | (simp only [yHo, bI, c_1, c_2, eq_self, ↓reduceIte]; rfl) | simp [yHo, bI, c_1, c_2])) rfl dX1_isHonestIn_23
    · refine lv_iload_n hx hb dX1_isHonestIn_9 rfl (lv_at hl 1 rfl) ?_
      refine lv_iload_n hx hb dX1_isHonestIn_10 rfl (lv_at hl 2 rfl) ?_
      refine rd_S (As := [.int q]) (rest := [.int wi]) ⟨hx, hb, hml, hown, hts⟩ (c_X1_setOf l D cI cZ cJ q) (va_cwS 1 hts gX1_isHonestIn_X1_setOf rfl rfl rfl (by decide +kernel) ⟨Nat.le_of_ble_eq_true rfl, Nat.le_of_ble_eq_true rfl⟩) (hP.sub (ws' := []) [] rfl) hK hN rfl hl.1 rfl (Nat.le_of_ble_eq_true rfl) dX1_isHonestIn_11 ⟨Nat.le_of_ble_eq_true rfl, Nat.le_of_ble_eq_true rfl⟩ ?_
      refine lv_iand hx hb dX1_isHonestIn_14 ?_
      refine lv_if_ne (tgt := 22) hx hb dX1_isHonestIn_15 (by decide) (fun c_3 => ?_) (fun c_3 => ?_)
      · refine lv_iconst (v := 0) hx hb dX1_isHonestIn_22 (by decide) ?_
        exact rd_zret hx hb hr hlocks (by (first | rfl | (simp only [yHo, bI, c_1, c_2, c_3, eq_self, ↓reduceIte]; done) | (simp only [yHo, bI, c_1, c_2, c_3, eq_self, ↓reduceIte]; rfl) | simp [yHo, bI, c_1, c_2, c_3])) rfl dX1_isHonestIn_23
      · refine lv_iconst (v := 1) hx hb dX1_isHonestIn_18 (by decide) ?_
        refine lv_goto (tgt := 23) hx hb dX1_isHonestIn_19 (by decide) ?_
        exact rd_zret hx hb hr hlocks (by (first | rfl | (simp only [yHo, bI, c_1, c_2, c_3, eq_self, ↓reduceIte]; done) | (simp only [yHo, bI, c_1, c_2, c_3, eq_self, ↓reduceIte]; rfl) | (simp only [yHo, bI, c_1, c_2, eq_true c_3, eq_self, ↓reduceIte]; done) | (simp only [yHo, bI, c_1, c_2, eq_true c_3, eq_self, ↓reduceIte]; rfl) | (simp [yHo, bI, c_1, c_2, eq_true c_3]; done) | simp [yHo, bI, c_1, c_2, c_3])) rfl dX1_isHonestIn_23
