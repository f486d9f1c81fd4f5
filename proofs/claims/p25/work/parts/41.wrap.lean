theorem r_a2 {a : Nat → Int32} {i : Nat} (h2 : a 2 = 4) (hi : i < 4) : yPl a (nI i) = true := by
  unfold yPl
  rw [h2]
  have h : ∀ i : Fin 4, (!decide (nI i.val < 0) && decide (nI i.val < 4)) = true := by decide +kernel
  exact h ⟨i, hi⟩
set_option maxHeartbeats 2000000 in
theorem x_L_worlds_1 (l : Launch) (D : va_G) (cI cZ cJ : ClassId) (sz : Nat) (hst : l.stackTraces = false) (hT hB hV : Nat) (a : Nat → Int32) (q : Int32) (hk : kYw a q = 1) : Mx l D cI cZ cJ yL_worlds wsL_worlds 9 153 sz [.ref hT, .int q] [cT hT hB hV a] (-71) := by
  refine mx_ofH (by decide) rfl (Nat.le_of_ble_eq_true rfl) (fun p e s m below meth c ls A hx hb hr hml hts hown hlocks htab hP hK hN hD hA hS hZ hY hXn hl => ?_)
  have hl : lv_has ls 4 [(0, .ref hT), (1, .int q)] := hl
  refine lv_aload_n hx hb dL_worlds_0 rfl (lv_at hl 0 rfl) ?_
  refine lv_iload_n hx hb dL_worlds_1 rfl (lv_at hl 1 rfl) ?_
  refine xc_V (b := hT) (As := [.int q]) (rest := []) ⟨hx, hb, hml, hown, hts⟩ (t_X1_worlds l D cI cZ cJ _ hst hT hB hV a q (by rw [hk]; decide)) (cwV 1 hts gL_worlds_X1_worlds rfl rfl rfl (by decide +kernel) ⟨Nat.le_of_ble_eq_true rfl, Nat.le_of_ble_eq_true rfl⟩) hP hD hK hN hY hS hA hZ (va_recv hK hP (ci := 1) (q0 := 0) rfl rfl) rfl hl.1 rfl (Nat.le_of_ble_eq_true rfl) dL_worlds_2 ⟨Nat.le_of_ble_eq_true rfl, Nat.le_of_ble_eq_true rfl⟩ [0] [] rfl rfl 1 rfl (by decide) (by decide) (fun H locs qe ce hP hD hS hG9 hq1 hq2 hq3 => ?_)
  rw [hk] at hq3
  refine vx_catch (E := "java/lang/IllegalStateException") (name := "java/lang/IllegalStateException") hown [] ⟨0, 6, 9, 20⟩ [⟨0, 6, 13, 22⟩] htab (fun _ h => nomatch h) (by decide) (by decide) (hts (.classLink RL 20 "java/lang/IllegalStateException") (List.mem_of_getElem? (i := 1) rfl)) (va_Nw.use rfl (hN.2.2 _ (List.mem_of_getElem? (i := 0) rfl))) hq1 hq2 hq3 ?_
  refine lv_astore_n (lv' := [(3, .ref qe), (0, .ref hT), (1, .int q)]) hx hb dL_worlds_9 rfl hl (by decide) rfl (fun ls hl => ?_)
  refine lv_bipush (v := (-71)) hx hb dL_worlds_10 (by decide) ?_
  exact mx_iret hx hb hr hlocks hS rfl hP hG9 dL_worlds_12

set_option maxHeartbeats 2000000 in
theorem x_L_worlds_2 (l : Launch) (D : va_G) (cI cZ cJ : ClassId) (sz : Nat) (hst : l.stackTraces = false) (hT hB hV : Nat) (a : Nat → Int32) (q : Int32) (hk : kYw a q = 2) : Mx l D cI cZ cJ yL_worlds wsL_worlds 9 153 sz [.ref hT, .int q] [cT hT hB hV a] (-72) := by
  refine mx_ofH (by decide) rfl (Nat.le_of_ble_eq_true rfl) (fun p e s m below meth c ls A hx hb hr hml hts hown hlocks htab hP hK hN hD hA hS hZ hY hXn hl => ?_)
  have hl : lv_has ls 4 [(0, .ref hT), (1, .int q)] := hl
  refine lv_aload_n hx hb dL_worlds_0 rfl (lv_at hl 0 rfl) ?_
  refine lv_iload_n hx hb dL_worlds_1 rfl (lv_at hl 1 rfl) ?_
  refine xc_V (b := hT) (As := [.int q]) (rest := []) ⟨hx, hb, hml, hown, hts⟩ (t_X1_worlds l D cI cZ cJ _ hst hT hB hV a q (by rw [hk]; decide)) (cwV 1 hts gL_worlds_X1_worlds rfl rfl rfl (by decide +kernel) ⟨Nat.le_of_ble_eq_true rfl, Nat.le_of_ble_eq_true rfl⟩) hP hD hK hN hY hS hA hZ (va_recv hK hP (ci := 1) (q0 := 0) rfl rfl) rfl hl.1 rfl (Nat.le_of_ble_eq_true rfl) dL_worlds_2 ⟨Nat.le_of_ble_eq_true rfl, Nat.le_of_ble_eq_true rfl⟩ [0] [] rfl rfl 1 rfl (by decide) (by decide) (fun H locs qe ce hP hD hS hG9 hq1 hq2 hq3 => ?_)
  rw [hk] at hq3
  refine vx_catch (E := "java/lang/IndexOutOfBoundsException") (name := "java/lang/IndexOutOfBoundsException") hown [⟨0, 6, 9, 20⟩] ⟨0, 6, 13, 22⟩ [] htab (List.forall_mem_cons.mpr ⟨Or.inr ⟨by decide, "java/lang/IllegalStateException", (hts (.classLink RL 20 "java/lang/IllegalStateException") (List.mem_of_getElem? (i := 1) rfl)), hXn.at 3 rfl⟩, (fun _ h => nomatch h)⟩) (by decide) (by decide) (hts (.classLink RL 22 "java/lang/IndexOutOfBoundsException") (List.mem_of_getElem? (i := 2) rfl)) (va_Nw.use rfl (hN.2.2 _ (List.mem_of_getElem? (i := 1) rfl))) hq1 hq2 hq3 ?_
  refine lv_astore_n (lv' := [(3, .ref qe), (0, .ref hT), (1, .int q)]) hx hb dL_worlds_13 rfl hl (by decide) rfl (fun ls hl => ?_)
  refine lv_bipush (v := (-72)) hx hb dL_worlds_14 (by decide) ?_
  exact mx_iret hx hb hr hlocks hS rfl hP hG9 dL_worlds_16

set_option maxHeartbeats 2000000 in
theorem x_L_claim_1 (l : Launch) (D : va_G) (cI cZ cJ : ClassId) (sz : Nat) (hst : l.stackTraces = false) (hT hB hV : Nat) (a : Nat → Int32) (hG : Nat) (tr : Int32) (q k r : Int32) (hk : kYc a tr q k r = 1) : Mx l D cI cZ cJ yL_claim wsL_claim 8 136 sz [.ref hT, .int q, .int k, .int r] [cT hT hB hV a, cB hB hG tr] (-71) := by
  refine mx_ofH (by decide) rfl (Nat.le_of_ble_eq_true rfl) (fun p e s m below meth c ls A hx hb hr hml hts hown hlocks htab hP hK hN hD hA hS hZ hY hXn hl => ?_)
  have hl : lv_has ls 6 [(0, .ref hT), (1, .int q), (2, .int k), (3, .int r)] := hl
  refine lv_aload_n hx hb dL_claim_0 rfl (lv_at hl 0 rfl) ?_
  refine lv_iload_n hx hb dL_claim_1 rfl (lv_at hl 1 rfl) ?_
  refine lv_iload_n hx hb dL_claim_2 rfl (lv_at hl 2 rfl) ?_
  refine lv_iload_n hx hb dL_claim_3 rfl (lv_at hl 3 rfl) ?_
  refine xc_V (b := hT) (As := [.int q, .int k, .int r]) (rest := []) ⟨hx, hb, hml, hown, hts⟩ (t_X1_claim l D cI cZ cJ _ hst hT hB hV a hG tr q k r (by rw [hk]; decide)) (cwV 3 hts gL_claim_X1_claim rfl rfl rfl (by decide +kernel) ⟨Nat.le_of_ble_eq_true rfl, Nat.le_of_ble_eq_true rfl⟩) hP hD hK hN hY hS hA hZ (va_recv hK hP (ci := 1) (q0 := 0) rfl rfl) rfl hl.1 rfl (Nat.le_of_ble_eq_true rfl) dL_claim_4 ⟨Nat.le_of_ble_eq_true rfl, Nat.le_of_ble_eq_true rfl⟩ [0, 1] [] rfl rfl 2 rfl (by decide) (by decide) (fun H locs qe ce hP hD hS hG9 hq1 hq2 hq3 => ?_)
  rw [hk] at hq3
  refine vx_catch (E := "java/lang/IllegalStateException") (name := "java/lang/IllegalStateException") hown [] ⟨0, 9, 12, 20⟩ [⟨0, 9, 17, 22⟩, ⟨0, 9, 22, 14⟩, ⟨0, 9, 27, 24⟩] htab (fun _ h => nomatch h) (by decide) (by decide) (hts (.classLink RL 20 "java/lang/IllegalStateException") (List.mem_of_getElem? (i := 1) rfl)) (va_Nw.use rfl (hN.2.2 _ (List.mem_of_getElem? (i := 0) rfl))) hq1 hq2 hq3 ?_
  refine lv_astore (lv' := [(5, .ref qe), (0, .ref hT), (1, .int q), (2, .int k), (3, .int r)]) hx hb dL_claim_12 hl (by decide) rfl (fun ls hl => ?_)
  refine lv_bipush (v := (-71)) hx hb dL_claim_14 (by decide) ?_
  exact mx_iret hx hb hr hlocks hS rfl hP hG9 dL_claim_16

set_option maxHeartbeats 2000000 in
theorem x_L_claimAmong_1 (l : Launch) (D : va_G) (cI cZ cJ : ClassId) (sz : Nat) (hst : l.stackTraces = false) (hT hB hV : Nat) (a : Nat → Int32) (hG : Nat) (tr : Int32) (q w : Int32) (hk : kYa a tr q w = 1) : Mx l D cI cZ cJ yL_claimAmong wsL_claimAmong 8 135 sz [.ref hT, .int q, .int w] [cT hT hB hV a, cB hB hG tr] (-71) := by
  refine mx_ofH (by decide) rfl (Nat.le_of_ble_eq_true rfl) (fun p e s m below meth c ls A hx hb hr hml hts hown hlocks htab hP hK hN hD hA hS hZ hY hXn hl => ?_)
  have hl : lv_has ls 5 [(0, .ref hT), (1, .int q), (2, .int w)] := hl
  refine lv_aload_n hx hb dL_claimAmong_0 rfl (lv_at hl 0 rfl) ?_
  refine lv_iload_n hx hb dL_claimAmong_1 rfl (lv_at hl 1 rfl) ?_
  refine lv_iload_n hx hb dL_claimAmong_2 rfl (lv_at hl 2 rfl) ?_
  refine xc_V (b := hT) (As := [.int q, .int w]) (rest := []) ⟨hx, hb, hml, hown, hts⟩ (t_X1_claimAmong l D cI cZ cJ _ hst hT hB hV a hG tr q w (by rw [hk]; decide)) (cwV 2 hts gL_claimAmong_X1_claimAmong rfl rfl rfl (by decide +kernel) ⟨Nat.le_of_ble_eq_true rfl, Nat.le_of_ble_eq_true rfl⟩) hP hD hK hN hY hS hA hZ (va_recv hK hP (ci := 1) (q0 := 0) rfl rfl) rfl hl.1 rfl (Nat.le_of_ble_eq_true rfl) dL_claimAmong_3 ⟨Nat.le_of_ble_eq_true rfl, Nat.le_of_ble_eq_true rfl⟩ [0, 1] [] rfl rfl 2 rfl (by decide) (by decide) (fun H locs qe ce hP hD hS hG9 hq1 hq2 hq3 => ?_)
  rw [hk] at hq3
  refine vx_catch (E := "java/lang/IllegalStateException") (name := "java/lang/IllegalStateException") hown [] ⟨0, 7, 10, 20⟩ [⟨0, 7, 15, 22⟩, ⟨0, 7, 20, 14⟩, ⟨0, 7, 25, 24⟩] htab (fun _ h => nomatch h) (by decide) (by decide) (hts (.classLink RL 20 "java/lang/IllegalStateException") (List.mem_of_getElem? (i := 1) rfl)) (va_Nw.use rfl (hN.2.2 _ (List.mem_of_getElem? (i := 0) rfl))) hq1 hq2 hq3 ?_
  refine lv_astore (lv' := [(4, .ref qe), (0, .ref hT), (1, .int q), (2, .int w)]) hx hb dL_claimAmong_10 hl (by decide) rfl (fun ls hl => ?_)
  refine lv_bipush (v := (-71)) hx hb dL_claimAmong_12 (by decide) ?_
  exact mx_iret hx hb hr hlocks hS rfl hP hG9 dL_claimAmong_14

set_option maxHeartbeats 2000000 in
theorem x_L_vote_1 (l : Launch) (D : va_G) (cI cZ cJ : ClassId) (sz : Nat) (hst : l.stackTraces = false) (hT hB hV : Nat) (a : Nat → Int32) (q r : Int32) (hk : kYv a q r = 1) : Mx l D cI cZ cJ yL_vote wsL_vote 8 133 sz [.ref hT, .int q, .int r] [cT hT hB hV a] (-71) := by
  refine mx_ofH (by decide) rfl (Nat.le_of_ble_eq_true rfl) (fun p e s m below meth c ls A hx hb hr hml hts hown hlocks htab hP hK hN hD hA hS hZ hY hXn hl => ?_)
  have hl : lv_has ls 5 [(0, .ref hT), (1, .int q), (2, .int r)] := hl
  refine lv_aload_n hx hb dL_vote_0 rfl (lv_at hl 0 rfl) ?_
  refine lv_iload_n hx hb dL_vote_1 rfl (lv_at hl 1 rfl) ?_
  refine lv_iload_n hx hb dL_vote_2 rfl (lv_at hl 2 rfl) ?_
  refine xc_V (b := hT) (As := [.int q, .int r]) (rest := []) ⟨hx, hb, hml, hown, hts⟩ (t_X1_vote l D cI cZ cJ _ hst hT hB hV a q r (by rw [hk]; decide)) (cwV 2 hts gL_vote_X1_vote rfl rfl rfl (by decide +kernel) ⟨Nat.le_of_ble_eq_true rfl, Nat.le_of_ble_eq_true rfl⟩) hP hD hK hN hY hS hA hZ (va_recv hK hP (ci := 1) (q0 := 0) rfl rfl) rfl hl.1 rfl (Nat.le_of_ble_eq_true rfl) dL_vote_3 ⟨Nat.le_of_ble_eq_true rfl, Nat.le_of_ble_eq_true rfl⟩ [0] [] rfl rfl 1 rfl (by decide) (by decide) (fun H locs qe ce hP hD hS hG9 hq1 hq2 hq3 => ?_)
  rw [hk] at hq3
  refine vx_catch (E := "java/lang/IllegalStateException") (name := "java/lang/IllegalStateException") hown [] ⟨0, 7, 10, 20⟩ [⟨0, 7, 15, 22⟩, ⟨0, 7, 20, 14⟩] htab (fun _ h => nomatch h) (by decide) (by decide) (hts (.classLink RL 20 "java/lang/IllegalStateException") (List.mem_of_getElem? (i := 1) rfl)) (va_Nw.use rfl (hN.2.2 _ (List.mem_of_getElem? (i := 0) rfl))) hq1 hq2 hq3 ?_
  refine lv_astore (lv' := [(4, .ref qe), (0, .ref hT), (1, .int q), (2, .int r)]) hx hb dL_vote_10 hl (by decide) rfl (fun ls hl => ?_)
  refine lv_bipush (v := (-71)) hx hb dL_vote_12 (by decide) ?_
  exact mx_iret hx hb hr hlocks hS rfl hP hG9 dL_vote_14

set_option maxHeartbeats 2000000 in
theorem x_L_closeVote_1 (l : Launch) (D : va_G) (cI cZ cJ : ClassId) (sz : Nat) (hst : l.stackTraces = false) (hT hB hV : Nat) (a : Nat → Int32) (hk : kYh a 1 = 1) : Mx l D cI cZ cJ yL_closeVote wsL_closeVote 8 132 sz [.ref hT] [cT hT hB hV a] (-71) := by
  refine mx_ofH (by decide) rfl (Nat.le_of_ble_eq_true rfl) (fun p e s m below meth c ls A hx hb hr hml hts hown hlocks htab hP hK hN hD hA hS hZ hY hXn hl => ?_)
  have hl : lv_has ls 3 [(0, .ref hT)] := hl
  refine lv_aload_n hx hb dL_closeVote_0 rfl (lv_at hl 0 rfl) ?_
  refine xc_V (b := hT) (As := []) (rest := []) ⟨hx, hb, hml, hown, hts⟩ (t_X1_closeVote l D cI cZ cJ _ hst hT hB hV a  (by rw [hk]; decide)) (cwV 0 hts gL_closeVote_X1_closeVote rfl rfl rfl (by decide +kernel) ⟨Nat.le_of_ble_eq_true rfl, Nat.le_of_ble_eq_true rfl⟩) hP hD hK hN hY hS hA hZ (va_recv hK hP (ci := 1) (q0 := 0) rfl rfl) rfl hl.1 rfl (Nat.le_of_ble_eq_true rfl) dL_closeVote_1 ⟨Nat.le_of_ble_eq_true rfl, Nat.le_of_ble_eq_true rfl⟩ [0] [] rfl rfl 1 rfl (by decide) (by decide) (fun H locs qe ce hP hD hS hG9 hq1 hq2 hq3 => ?_)
  rw [hk] at hq3
  refine vx_catch (E := "java/lang/IllegalStateException") (name := "java/lang/IllegalStateException") hown [] ⟨0, 5, 8, 20⟩ [] htab (fun _ h => nomatch h) (by decide) (by decide) (hts (.classLink RL 20 "java/lang/IllegalStateException") (List.mem_of_getElem? (i := 1) rfl)) (va_Nw.use rfl (hN.2.2 _ (List.mem_of_getElem? (i := 0) rfl))) hq1 hq2 hq3 ?_
  refine lv_astore_n (lv' := [(2, .ref qe), (0, .ref hT)]) hx hb dL_closeVote_8 rfl hl (by decide) rfl (fun ls hl => ?_)
  refine lv_bipush (v := (-71)) hx hb dL_closeVote_9 (by decide) ?_
  exact mx_iret hx hb hr hlocks hS rfl hP hG9 dL_closeVote_11

set_option maxHeartbeats 2000000 in
theorem x_L_endNight_1 (l : Launch) (D : va_G) (cI cZ cJ : ClassId) (sz : Nat) (hst : l.stackTraces = false) (hT hB hV : Nat) (a : Nat → Int32) (hk : kYh a 2 = 1) : Mx l D cI cZ cJ yL_endNight wsL_endNight 8 132 sz [.ref hT] [cT hT hB hV a] (-71) := by
  refine mx_ofH (by decide) rfl (Nat.le_of_ble_eq_true rfl) (fun p e s m below meth c ls A hx hb hr hml hts hown hlocks htab hP hK hN hD hA hS hZ hY hXn hl => ?_)
  have hl : lv_has ls 3 [(0, .ref hT)] := hl
  refine lv_aload_n hx hb dL_endNight_0 rfl (lv_at hl 0 rfl) ?_
  refine xc_V (b := hT) (As := []) (rest := []) ⟨hx, hb, hml, hown, hts⟩ (t_X1_endNight l D cI cZ cJ _ hst hT hB hV a  (by rw [hk]; decide)) (cwV 0 hts gL_endNight_X1_endNight rfl rfl rfl (by decide +kernel) ⟨Nat.le_of_ble_eq_true rfl, Nat.le_of_ble_eq_true rfl⟩) hP hD hK hN hY hS hA hZ (va_recv hK hP (ci := 1) (q0 := 0) rfl rfl) rfl hl.1 rfl (Nat.le_of_ble_eq_true rfl) dL_endNight_1 ⟨Nat.le_of_ble_eq_true rfl, Nat.le_of_ble_eq_true rfl⟩ [0] [] rfl rfl 1 rfl (by decide) (by decide) (fun H locs qe ce hP hD hS hG9 hq1 hq2 hq3 => ?_)
  rw [hk] at hq3
  refine vx_catch (E := "java/lang/IllegalStateException") (name := "java/lang/IllegalStateException") hown [] ⟨0, 5, 8, 20⟩ [] htab (fun _ h => nomatch h) (by decide) (by decide) (hts (.classLink RL 20 "java/lang/IllegalStateException") (List.mem_of_getElem? (i := 1) rfl)) (va_Nw.use rfl (hN.2.2 _ (List.mem_of_getElem? (i := 0) rfl))) hq1 hq2 hq3 ?_
  refine lv_astore_n (lv' := [(2, .ref qe), (0, .ref hT)]) hx hb dL_endNight_8 rfl hl (by decide) rfl (fun ls hl => ?_)
  refine lv_bipush (v := (-71)) hx hb dL_endNight_9 (by decide) ?_
  exact mx_iret hx hb hr hlocks hS rfl hP hG9 dL_endNight_11

set_option maxHeartbeats 2000000 in
theorem x_L_chooses_1 (l : Launch) (D : va_G) (cI cZ cJ : ClassId) (sz : Nat) (hst : l.stackTraces = false) (hT hB hV : Nat) (a : Nat → Int32) (q : Int32) (hk : kYt a q = 1) : Mx l D cI cZ cJ yL_chooses wsL_chooses 8 133 sz [.ref hT, .int 1, .int q] [cT hT hB hV a] (-71) := by
  refine mx_ofH (by decide) rfl (Nat.le_of_ble_eq_true rfl) (fun p e s m below meth c ls A hx hb hr hml hts hown hlocks htab hP hK hN hD hA hS hZ hY hXn hl => ?_)
  have hl : lv_has ls 5 [(0, .ref hT), (1, .int 1), (2, .int q)] := hl
  refine lv_iload_n hx hb dL_chooses_0 rfl (lv_at hl 1 rfl) ?_
  refine lv_if_ne (tgt := 12) hx hb dL_chooses_1 (by decide) (fun c1 => ?_) (fun c1 => ?_)
  · refine lv_iload_n hx hb dL_chooses_12 rfl (lv_at hl 1 rfl) ?_
    refine lv_iconst (v := 1) hx hb dL_chooses_13 (by decide) ?_
    refine lv_icmp_ne (tgt := 25) hx hb dL_chooses_14 (by decide) (fun c2 => ?_) (fun c2 => ?_)
    · exact absurd c2 (by decide)
    · refine lv_aload_n hx hb dL_chooses_17 rfl (lv_at hl 0 rfl) ?_
      refine lv_iload_n hx hb dL_chooses_18 rfl (lv_at hl 2 rfl) ?_
      refine xc_V (b := hT) (As := [.int q]) (rest := []) ⟨hx, hb, hml, hown, hts⟩ (t_X1_attack l D cI cZ cJ _ hst hT hB hV a q (by rw [hk]; decide)) (cwV 1 hts gL_chooses_X1_attack rfl rfl rfl (by decide +kernel) ⟨Nat.le_of_ble_eq_true rfl, Nat.le_of_ble_eq_true rfl⟩) hP hD hK hN hY hS hA hZ (va_recv hK hP (ci := 1) (q0 := 0) rfl rfl) rfl hl.1 rfl (Nat.le_of_ble_eq_true rfl) dL_chooses_19 ⟨Nat.le_of_ble_eq_true rfl, Nat.le_of_ble_eq_true rfl⟩ [0] [] rfl rfl 1 rfl (by decide) (by decide) (fun H locs qe ce hP hD hS hG9 hq1 hq2 hq3 => ?_)
      rw [hk] at hq3
      refine vx_catch (E := "java/lang/IllegalStateException") (name := "java/lang/IllegalStateException") hown [] ⟨0, 31, 34, 20⟩ [⟨0, 31, 39, 22⟩, ⟨0, 31, 44, 14⟩] htab (fun _ h => nomatch h) (by decide) (by decide) (hts (.classLink RL 20 "java/lang/IllegalStateException") (List.mem_of_getElem? (i := 1) rfl)) (va_Nw.use rfl (hN.2.2 _ (List.mem_of_getElem? (i := 0) rfl))) hq1 hq2 hq3 ?_
      refine lv_astore (lv' := [(4, .ref qe), (0, .ref hT), (1, .int 1), (2, .int q)]) hx hb dL_chooses_34 hl (by decide) rfl (fun ls hl => ?_)
      refine lv_bipush (v := (-71)) hx hb dL_chooses_36 (by decide) ?_
      exact mx_iret hx hb hr hlocks hS rfl hP hG9 dL_chooses_38
  · exact absurd c1 (by decide)

set_option maxHeartbeats 2000000 in
theorem x_L_isPossible_1 (l : Launch) (D : va_G) (cI cZ cJ : ClassId) (sz : Nat) (hst : l.stackTraces = false) (hT hB hV : Nat) (a : Nat → Int32) (q t r u : Int32) (hk : kYi a q r u = 1) : Mx l D cI cZ cJ yL_isPossible wsL_isPossible 9 156 sz [.ref hT, .int q, .int t, .int r, .int u] [cT hT hB hV a] (-71) := by
  refine mx_ofH (by decide) rfl (Nat.le_of_ble_eq_true rfl) (fun p e s m below meth c ls A hx hb hr hml hts hown hlocks htab hP hK hN hD hA hS hZ hY hXn hl => ?_)
  have hl : lv_has ls 7 [(0, .ref hT), (1, .int q), (2, .int t), (3, .int r), (4, .int u)] := hl
  refine lv_aload_n hx hb dL_isPossible_0 rfl (lv_at hl 0 rfl) ?_
  refine lv_iload_n hx hb dL_isPossible_1 rfl (lv_at hl 1 rfl) ?_
  refine lv_iload_n hx hb dL_isPossible_2 rfl (lv_at hl 2 rfl) ?_
  refine lv_iload_n hx hb dL_isPossible_3 rfl (lv_at hl 3 rfl) ?_
  refine lv_iload hx hb dL_isPossible_4 (lv_at hl 4 rfl) ?_
  refine xc_V (b := hT) (As := [.int q, .int t, .int r, .int u]) (rest := []) ⟨hx, hb, hml, hown, hts⟩ (t_X1_isPossible l D cI cZ cJ _ hst hT hB hV a q t r u (by rw [hk]; decide)) (cwV 4 hts gL_isPossible_X1_isPossible rfl rfl rfl (by decide +kernel) ⟨Nat.le_of_ble_eq_true rfl, Nat.le_of_ble_eq_true rfl⟩) hP hD hK hN hY hS hA hZ (va_recv hK hP (ci := 1) (q0 := 0) rfl rfl) rfl hl.1 rfl (Nat.le_of_ble_eq_true rfl) dL_isPossible_6 ⟨Nat.le_of_ble_eq_true rfl, Nat.le_of_ble_eq_true rfl⟩ [0] [] rfl rfl 1 rfl (by decide) (by decide) (fun H locs qe ce hP hD hS hG9 hq1 hq2 hq3 => ?_)
  rw [hk] at hq3
  refine vx_catch (E := "java/lang/IllegalStateException") (name := "java/lang/IllegalStateException") hown [] ⟨0, 11, 14, 20⟩ [⟨0, 11, 19, 22⟩] htab (fun _ h => nomatch h) (by decide) (by decide) (hts (.classLink RL 20 "java/lang/IllegalStateException") (List.mem_of_getElem? (i := 1) rfl)) (va_Nw.use rfl (hN.2.2 _ (List.mem_of_getElem? (i := 0) rfl))) hq1 hq2 hq3 ?_
  refine lv_astore (lv' := [(6, .ref qe), (0, .ref hT), (1, .int q), (2, .int t), (3, .int r), (4, .int u)]) hx hb dL_isPossible_14 hl (by decide) rfl (fun ls hl => ?_)
  refine lv_bipush (v := (-71)) hx hb dL_isPossible_16 (by decide) ?_
  exact mx_iret hx hb hr hlocks hS rfl hP hG9 dL_isPossible_18

set_option maxHeartbeats 2000000 in
theorem x_L_isPossible_2 (l : Launch) (D : va_G) (cI cZ cJ : ClassId) (sz : Nat) (hst : l.stackTraces = false) (hT hB hV : Nat) (a : Nat → Int32) (q t r u : Int32) (hk : kYi a q r u = 2) : Mx l D cI cZ cJ yL_isPossible wsL_isPossible 9 156 sz [.ref hT, .int q, .int t, .int r, .int u] [cT hT hB hV a] (-72) := by
  refine mx_ofH (by decide) rfl (Nat.le_of_ble_eq_true rfl) (fun p e s m below meth c ls A hx hb hr hml hts hown hlocks htab hP hK hN hD hA hS hZ hY hXn hl => ?_)
  have hl : lv_has ls 7 [(0, .ref hT), (1, .int q), (2, .int t), (3, .int r), (4, .int u)] := hl
  refine lv_aload_n hx hb dL_isPossible_0 rfl (lv_at hl 0 rfl) ?_
  refine lv_iload_n hx hb dL_isPossible_1 rfl (lv_at hl 1 rfl) ?_
  refine lv_iload_n hx hb dL_isPossible_2 rfl (lv_at hl 2 rfl) ?_
  refine lv_iload_n hx hb dL_isPossible_3 rfl (lv_at hl 3 rfl) ?_
  refine lv_iload hx hb dL_isPossible_4 (lv_at hl 4 rfl) ?_
  refine xc_V (b := hT) (As := [.int q, .int t, .int r, .int u]) (rest := []) ⟨hx, hb, hml, hown, hts⟩ (t_X1_isPossible l D cI cZ cJ _ hst hT hB hV a q t r u (by rw [hk]; decide)) (cwV 4 hts gL_isPossible_X1_isPossible rfl rfl rfl (by decide +kernel) ⟨Nat.le_of_ble_eq_true rfl, Nat.le_of_ble_eq_true rfl⟩) hP hD hK hN hY hS hA hZ (va_recv hK hP (ci := 1) (q0 := 0) rfl rfl) rfl hl.1 rfl (Nat.le_of_ble_eq_true rfl) dL_isPossible_6 ⟨Nat.le_of_ble_eq_true rfl, Nat.le_of_ble_eq_true rfl⟩ [0] [] rfl rfl 1 rfl (by decide) (by decide) (fun H locs qe ce hP hD hS hG9 hq1 hq2 hq3 => ?_)
  rw [hk] at hq3
  refine vx_catch (E := "java/lang/IndexOutOfBoundsException") (name := "java/lang/IndexOutOfBoundsException") hown [⟨0, 11, 14, 20⟩] ⟨0, 11, 19, 22⟩ [] htab (List.forall_mem_cons.mpr ⟨Or.inr ⟨by decide, "java/lang/IllegalStateException", (hts (.classLink RL 20 "java/lang/IllegalStateException") (List.mem_of_getElem? (i := 1) rfl)), hXn.at 3 rfl⟩, (fun _ h => nomatch h)⟩) (by decide) (by decide) (hts (.classLink RL 22 "java/lang/IndexOutOfBoundsException") (List.mem_of_getElem? (i := 2) rfl)) (va_Nw.use rfl (hN.2.2 _ (List.mem_of_getElem? (i := 1) rfl))) hq1 hq2 hq3 ?_
  refine lv_astore (lv' := [(6, .ref qe), (0, .ref hT), (1, .int q), (2, .int t), (3, .int r), (4, .int u)]) hx hb dL_isPossible_19 hl (by decide) rfl (fun ls hl => ?_)
  refine lv_bipush (v := (-72)) hx hb dL_isPossible_21 (by decide) ?_
  exact mx_iret hx hb hr hlocks hS rfl hP hG9 dL_isPossible_23

set_option maxHeartbeats 2000000 in
theorem x_L_worldsWith_1 (l : Launch) (D : va_G) (cI cZ cJ : ClassId) (sz : Nat) (hst : l.stackTraces = false) (hT hB hV : Nat) (a : Nat → Int32) (q r k : Int32) (hk : kYx a q r k = 1) : Mx l D cI cZ cJ yL_worldsWith wsL_worldsWith 9 155 sz [.ref hT, .int q, .int r, .int k] [cT hT hB hV a] (-71) := by
  refine mx_ofH (by decide) rfl (Nat.le_of_ble_eq_true rfl) (fun p e s m below meth c ls A hx hb hr hml hts hown hlocks htab hP hK hN hD hA hS hZ hY hXn hl => ?_)
  have hl : lv_has ls 6 [(0, .ref hT), (1, .int q), (2, .int r), (3, .int k)] := hl
  refine lv_aload_n hx hb dL_worldsWith_0 rfl (lv_at hl 0 rfl) ?_
  refine lv_iload_n hx hb dL_worldsWith_1 rfl (lv_at hl 1 rfl) ?_
  refine lv_iload_n hx hb dL_worldsWith_2 rfl (lv_at hl 2 rfl) ?_
  refine lv_iload_n hx hb dL_worldsWith_3 rfl (lv_at hl 3 rfl) ?_
  refine xc_V (b := hT) (As := [.int q, .int r, .int k]) (rest := []) ⟨hx, hb, hml, hown, hts⟩ (t_X1_worldsWith l D cI cZ cJ _ hst hT hB hV a q r k (by rw [hk]; decide)) (cwV 3 hts gL_worldsWith_X1_worldsWith rfl rfl rfl (by decide +kernel) ⟨Nat.le_of_ble_eq_true rfl, Nat.le_of_ble_eq_true rfl⟩) hP hD hK hN hY hS hA hZ (va_recv hK hP (ci := 1) (q0 := 0) rfl rfl) rfl hl.1 rfl (Nat.le_of_ble_eq_true rfl) dL_worldsWith_4 ⟨Nat.le_of_ble_eq_true rfl, Nat.le_of_ble_eq_true rfl⟩ [0] [] rfl rfl 1 rfl (by decide) (by decide) (fun H locs qe ce hP hD hS hG9 hq1 hq2 hq3 => ?_)
  rw [hk] at hq3
  refine vx_catch (E := "java/lang/IllegalStateException") (name := "java/lang/IllegalStateException") hown [] ⟨0, 9, 12, 20⟩ [⟨0, 9, 17, 22⟩, ⟨0, 9, 22, 14⟩] htab (fun _ h => nomatch h) (by decide) (by decide) (hts (.classLink RL 20 "java/lang/IllegalStateException") (List.mem_of_getElem? (i := 1) rfl)) (va_Nw.use rfl (hN.2.2 _ (List.mem_of_getElem? (i := 0) rfl))) hq1 hq2 hq3 ?_
  refine lv_astore (lv' := [(5, .ref qe), (0, .ref hT), (1, .int q), (2, .int r), (3, .int k)]) hx hb dL_worldsWith_12 hl (by decide) rfl (fun ls hl => ?_)
  refine lv_bipush (v := (-71)) hx hb dL_worldsWith_14 (by decide) ?_
  exact mx_iret hx hb hr hlocks hS rfl hP hG9 dL_worldsWith_16

set_option maxHeartbeats 2000000 in
theorem x_L_worldsWith_2 (l : Launch) (D : va_G) (cI cZ cJ : ClassId) (sz : Nat) (hst : l.stackTraces = false) (hT hB hV : Nat) (a : Nat → Int32) (q r k : Int32) (hk : kYx a q r k = 2) : Mx l D cI cZ cJ yL_worldsWith wsL_worldsWith 9 155 sz [.ref hT, .int q, .int r, .int k] [cT hT hB hV a] (-72) := by
  refine mx_ofH (by decide) rfl (Nat.le_of_ble_eq_true rfl) (fun p e s m below meth c ls A hx hb hr hml hts hown hlocks htab hP hK hN hD hA hS hZ hY hXn hl => ?_)
  have hl : lv_has ls 6 [(0, .ref hT), (1, .int q), (2, .int r), (3, .int k)] := hl
  refine lv_aload_n hx hb dL_worldsWith_0 rfl (lv_at hl 0 rfl) ?_
  refine lv_iload_n hx hb dL_worldsWith_1 rfl (lv_at hl 1 rfl) ?_
  refine lv_iload_n hx hb dL_worldsWith_2 rfl (lv_at hl 2 rfl) ?_
  refine lv_iload_n hx hb dL_worldsWith_3 rfl (lv_at hl 3 rfl) ?_
  refine xc_V (b := hT) (As := [.int q, .int r, .int k]) (rest := []) ⟨hx, hb, hml, hown, hts⟩ (t_X1_worldsWith l D cI cZ cJ _ hst hT hB hV a q r k (by rw [hk]; decide)) (cwV 3 hts gL_worldsWith_X1_worldsWith rfl rfl rfl (by decide +kernel) ⟨Nat.le_of_ble_eq_true rfl, Nat.le_of_ble_eq_true rfl⟩) hP hD hK hN hY hS hA hZ (va_recv hK hP (ci := 1) (q0 := 0) rfl rfl) rfl hl.1 rfl (Nat.le_of_ble_eq_true rfl) dL_worldsWith_4 ⟨Nat.le_of_ble_eq_true rfl, Nat.le_of_ble_eq_true rfl⟩ [0] [] rfl rfl 1 rfl (by decide) (by decide) (fun H locs qe ce hP hD hS hG9 hq1 hq2 hq3 => ?_)
  rw [hk] at hq3
  refine vx_catch (E := "java/lang/IndexOutOfBoundsException") (name := "java/lang/IndexOutOfBoundsException") hown [⟨0, 9, 12, 20⟩] ⟨0, 9, 17, 22⟩ [⟨0, 9, 22, 14⟩] htab (List.forall_mem_cons.mpr ⟨Or.inr ⟨by decide, "java/lang/IllegalStateException", (hts (.classLink RL 20 "java/lang/IllegalStateException") (List.mem_of_getElem? (i := 1) rfl)), hXn.at 3 rfl⟩, (fun _ h => nomatch h)⟩) (by decide) (by decide) (hts (.classLink RL 22 "java/lang/IndexOutOfBoundsException") (List.mem_of_getElem? (i := 2) rfl)) (va_Nw.use rfl (hN.2.2 _ (List.mem_of_getElem? (i := 1) rfl))) hq1 hq2 hq3 ?_
  refine lv_astore (lv' := [(5, .ref qe), (0, .ref hT), (1, .int q), (2, .int r), (3, .int k)]) hx hb dL_worldsWith_17 hl (by decide) rfl (fun ls hl => ?_)
  refine lv_bipush (v := (-72)) hx hb dL_worldsWith_19 (by decide) ?_
  exact mx_iret hx hb hr hlocks hS rfl hP hG9 dL_worldsWith_21

set_option maxHeartbeats 2000000 in
theorem x_L_worldsWith_3 (l : Launch) (D : va_G) (cI cZ cJ : ClassId) (sz : Nat) (hst : l.stackTraces = false) (hT hB hV : Nat) (a : Nat → Int32) (q r k : Int32) (hk : kYx a q r k = 3) : Mx l D cI cZ cJ yL_worldsWith wsL_worldsWith 9 155 sz [.ref hT, .int q, .int r, .int k] [cT hT hB hV a] (-73) := by
  refine mx_ofH (by decide) rfl (Nat.le_of_ble_eq_true rfl) (fun p e s m below meth c ls A hx hb hr hml hts hown hlocks htab hP hK hN hD hA hS hZ hY hXn hl => ?_)
  have hl : lv_has ls 6 [(0, .ref hT), (1, .int q), (2, .int r), (3, .int k)] := hl
  refine lv_aload_n hx hb dL_worldsWith_0 rfl (lv_at hl 0 rfl) ?_
  refine lv_iload_n hx hb dL_worldsWith_1 rfl (lv_at hl 1 rfl) ?_
  refine lv_iload_n hx hb dL_worldsWith_2 rfl (lv_at hl 2 rfl) ?_
  refine lv_iload_n hx hb dL_worldsWith_3 rfl (lv_at hl 3 rfl) ?_
  refine xc_V (b := hT) (As := [.int q, .int r, .int k]) (rest := []) ⟨hx, hb, hml, hown, hts⟩ (t_X1_worldsWith l D cI cZ cJ _ hst hT hB hV a q r k (by rw [hk]; decide)) (cwV 3 hts gL_worldsWith_X1_worldsWith rfl rfl rfl (by decide +kernel) ⟨Nat.le_of_ble_eq_true rfl, Nat.le_of_ble_eq_true rfl⟩) hP hD hK hN hY hS hA hZ (va_recv hK hP (ci := 1) (q0 := 0) rfl rfl) rfl hl.1 rfl (Nat.le_of_ble_eq_true rfl) dL_worldsWith_4 ⟨Nat.le_of_ble_eq_true rfl, Nat.le_of_ble_eq_true rfl⟩ [0] [] rfl rfl 1 rfl (by decide) (by decide) (fun H locs qe ce hP hD hS hG9 hq1 hq2 hq3 => ?_)
  rw [hk] at hq3
  refine vx_catch (E := "java/lang/IllegalArgumentException") (name := "java/lang/IllegalArgumentException") hown [⟨0, 9, 12, 20⟩, ⟨0, 9, 17, 22⟩] ⟨0, 9, 22, 14⟩ [] htab (List.forall_mem_cons.mpr ⟨Or.inr ⟨by decide, "java/lang/IllegalStateException", (hts (.classLink RL 20 "java/lang/IllegalStateException") (List.mem_of_getElem? (i := 1) rfl)), hXn.at 6 rfl⟩, (List.forall_mem_cons.mpr ⟨Or.inr ⟨by decide, "java/lang/IndexOutOfBoundsException", (hts (.classLink RL 22 "java/lang/IndexOutOfBoundsException") (List.mem_of_getElem? (i := 2) rfl)), hXn.at 7 rfl⟩, (fun _ h => nomatch h)⟩)⟩) (by decide) (by decide) (hts (.classLink RL 14 "java/lang/IllegalArgumentException") (List.mem_of_getElem? (i := 3) rfl)) (va_Nw.use rfl (hN.2.2 _ (List.mem_of_getElem? (i := 2) rfl))) hq1 hq2 hq3 ?_
  refine lv_astore (lv' := [(5, .ref qe), (0, .ref hT), (1, .int q), (2, .int r), (3, .int k)]) hx hb dL_worldsWith_22 hl (by decide) rfl (fun ls hl => ?_)
  refine lv_bipush (v := (-73)) hx hb dL_worldsWith_24 (by decide) ?_
  exact mx_iret hx hb hr hlocks hS rfl hP hG9 dL_worldsWith_26

set_option maxHeartbeats 2000000 in
theorem x_L_start_3 (l : Launch) (D : va_G) (cI cZ cJ : ClassId) (sz : Nat) (hst : l.stackTraces = false) (hT hB hV : Nat) (a : Nat → Int32) (pl wi se gu : Int32) (hk : kYs pl wi se gu = 3) : Mx l D cI cZ cJ yL_start wsL_start 7 114 sz [.ref hT, .int pl, .int wi, .int se, .int gu] [cT hT hB hV a] (-73) := by
  refine mx_ofH (by decide) rfl (Nat.le_of_ble_eq_true rfl) (fun p e s m below meth c ls A hx hb hr hml hts hown hlocks htab hP hK hN hD hA hS hZ hY hXn hl => ?_)
  have hl : lv_has ls 7 [(0, .ref hT), (1, .int pl), (2, .int wi), (3, .int se), (4, .int gu)] := hl
  refine lv_aload_n hx hb dL_start_0 rfl (lv_at hl 0 rfl) ?_
  refine lv_iload_n hx hb dL_start_1 rfl (lv_at hl 1 rfl) ?_
  refine lv_iload_n hx hb dL_start_2 rfl (lv_at hl 2 rfl) ?_
  refine lv_iload_n hx hb dL_start_3 rfl (lv_at hl 3 rfl) ?_
  refine lv_iload hx hb dL_start_4 (lv_at hl 4 rfl) ?_
  refine xc_V (b := hT) (As := [.int pl, .int wi, .int se, .int gu]) (rest := []) ⟨hx, hb, hml, hown, hts⟩ (t_X1_start l D cI cZ cJ _ hst hT hB hV a pl wi se gu (by rw [hk]; decide)) (cwV 4 hts gL_start_X1_start rfl rfl rfl (by decide +kernel) ⟨Nat.le_of_ble_eq_true rfl, Nat.le_of_ble_eq_true rfl⟩) hP hD hK hN hY hS hA hZ (va_recv hK hP (ci := 1) (q0 := 0) rfl rfl) rfl hl.1 rfl (Nat.le_of_ble_eq_true rfl) dL_start_6 ⟨Nat.le_of_ble_eq_true rfl, Nat.le_of_ble_eq_true rfl⟩ [0] [] rfl rfl 1 rfl (by decide) (by decide) (fun H locs qe ce hP hD hS hG9 hq1 hq2 hq3 => ?_)
  rw [hk] at hq3
  refine vx_catch (E := "java/lang/IllegalArgumentException") (name := "java/lang/IllegalArgumentException") hown [] ⟨0, 11, 14, 14⟩ [] htab (fun _ h => nomatch h) (by decide) (by decide) (hts (.classLink RL 14 "java/lang/IllegalArgumentException") (List.mem_of_getElem? (i := 1) rfl)) (va_Nw.use rfl (hN.2.2 _ (List.mem_of_getElem? (i := 2) rfl))) hq1 hq2 hq3 ?_
  refine lv_astore (lv' := [(6, .ref qe), (0, .ref hT), (1, .int pl), (2, .int wi), (3, .int se), (4, .int gu)]) hx hb dL_start_14 hl (by decide) rfl (fun ls hl => ?_)
  refine lv_bipush (v := (-73)) hx hb dL_start_16 (by decide) ?_
  exact mx_iret hx hb hr hlocks hS rfl hP hG9 dL_start_18

set_option maxHeartbeats 4000000 in
set_option maxRecDepth 100000 in
theorem c_L_worlds (l : Launch) (D : va_G) (cI cZ cJ : ClassId) (hT hB hV : Nat) (a : Nat → Int32) (hG : Nat) (tr : Int32) (g : Nat → Int32) (q : Int32) (K : Nat) (hK9 : K ≤ 1120) (hg : ∀ j, j < K → ¬ g j = 0) (hz : K < 1120 → g K = 0) (h1 : ¬ a 0 = 0) (h2 : yVw a q = true) : Rd l D cI cZ cJ yL_worlds wsL_worlds 4 84 [.ref hT, .int q] [cT hT hB hV a, cB hB hG tr, cA cI hG 1120 g] (xCnt (pAg g tr (yKn a q)) K) := by
  refine rd_ofH (by decide) rfl (Nat.le_of_ble_eq_true rfl) (fun p e s m below meth c ls hx hb hr hml hts hown hlocks hP hK hN hl => ?_)
  have hl : lv_has ls 4 [(0, .ref hT), (1, .int q)] := hl
  refine lv_aload_n hx hb dL_worlds_0 rfl (lv_at hl 0 rfl) ?_
  refine lv_iload_n hx hb dL_worlds_1 rfl (lv_at hl 1 rfl) ?_
  refine rd_V (b := hT) (As := [.int q]) (rest := []) ⟨hx, hb, hml, hown, hts⟩ (c_X1_worlds l D cI cZ cJ hT hB hV a hG tr g q K hK9 hg hz h1 h2) (cwV 1 hts gL_worlds_X1_worlds rfl rfl rfl (by decide +kernel) ⟨Nat.le_of_ble_eq_true rfl, Nat.le_of_ble_eq_true rfl⟩) (hP.sub (ws' := [cT hT hB hV a, cB hB hG tr, cA cI hG 1120 g]) [0, 1, 2] rfl) hK hN (va_recv hK hP (ci := 1) (q0 := 0) rfl rfl) rfl hl.1 rfl (Nat.le_of_ble_eq_true rfl) dL_worlds_2 ⟨Nat.le_of_ble_eq_true rfl, Nat.le_of_ble_eq_true rfl⟩ ?_
  refine lv_istore_n (lv' := [(2, .int (xCnt (pAg g tr (yKn a q)) K)), (0, .ref hT), (1, .int q)]) hx hb dL_worlds_5 rfl hl (by decide) rfl (fun ls hl => ?_)
  refine lv_goto (tgt := 17) hx hb dL_worlds_6 (by decide) ?_
  refine lv_iload_n hx hb dL_worlds_17 rfl (lv_at hl 0 rfl) ?_
  exact rd_iret hx hb hr hlocks rfl dL_worlds_18

set_option maxHeartbeats 4000000 in
set_option maxRecDepth 100000 in
theorem c_L_worldsWith (l : Launch) (D : va_G) (cI cZ cJ : ClassId) (hT hB hV : Nat) (a : Nat → Int32) (hG : Nat) (tr : Int32) (g : Nat → Int32) (q r k : Int32) (K : Nat) (hK9 : K ≤ 1120) (hg : ∀ j, j < K → ¬ g j = 0) (hz : K < 1120 → g K = 0) (h1 : ¬ a 0 = 0) (h2 : yVw a q = true) (h3 : yPl a r = true) (h4 : ¬ k < 0) (h5 : k ≤ 3) : Rd l D cI cZ cJ yL_worldsWith wsL_worldsWith 4 91 [.ref hT, .int q, .int r, .int k] [cT hT hB hV a, cB hB hG tr, cA cI hG 1120 g] (xCnt (pRo g tr (yKn a q) r k) K) := by
  refine rd_ofH (by decide) rfl (Nat.le_of_ble_eq_true rfl) (fun p e s m below meth c ls hx hb hr hml hts hown hlocks hP hK hN hl => ?_)
  have hl : lv_has ls 6 [(0, .ref hT), (1, .int q), (2, .int r), (3, .int k)] := hl
  refine lv_aload_n hx hb dL_worldsWith_0 rfl (lv_at hl 0 rfl) ?_
  refine lv_iload_n hx hb dL_worldsWith_1 rfl (lv_at hl 1 rfl) ?_
  refine lv_iload_n hx hb dL_worldsWith_2 rfl (lv_at hl 2 rfl) ?_
  refine lv_iload_n hx hb dL_worldsWith_3 rfl (lv_at hl 3 rfl) ?_
  refine rd_V (b := hT) (As := [.int q, .int r, .int k]) (rest := []) ⟨hx, hb, hml, hown, hts⟩ (c_X1_worldsWith l D cI cZ cJ hT hB hV a hG tr g q r k K hK9 hg hz h1 h2 h3 h4 h5) (cwV 3 hts gL_worldsWith_X1_worldsWith rfl rfl rfl (by decide +kernel) ⟨Nat.le_of_ble_eq_true rfl, Nat.le_of_ble_eq_true rfl⟩) (hP.sub (ws' := [cT hT hB hV a, cB hB hG tr, cA cI hG 1120 g]) [0, 1, 2] rfl) hK hN (va_recv hK hP (ci := 1) (q0 := 0) rfl rfl) rfl hl.1 rfl (Nat.le_of_ble_eq_true rfl) dL_worldsWith_4 ⟨Nat.le_of_ble_eq_true rfl, Nat.le_of_ble_eq_true rfl⟩ ?_
  refine lv_istore (lv' := [(4, .int (xCnt (pRo g tr (yKn a q) r k) K)), (0, .ref hT), (1, .int q), (2, .int r), (3, .int k)]) hx hb dL_worldsWith_7 hl (by decide) rfl (fun ls hl => ?_)
  refine lv_goto (tgt := 27) hx hb dL_worldsWith_9 (by decide) ?_
  refine lv_iload hx hb dL_worldsWith_27 (lv_at hl 0 rfl) ?_
  exact rd_iret hx hb hr hlocks rfl dL_worldsWith_29

set_option maxHeartbeats 4000000 in
set_option maxRecDepth 100000 in
theorem c_L_isPossible (l : Launch) (D : va_G) (cI cZ cJ : ClassId) (hT hB hV : Nat) (a : Nat → Int32) (hG : Nat) (tr : Int32) (g : Nat → Int32) (q t r u : Int32) (K : Nat) (hK9 : K ≤ 1120) (hg : ∀ j, j < K → ¬ g j = 0) (hz : K < 1120 → g K = 0) (h1 : ¬ a 0 = 0) (h2 : yVw a q = true) (h3 : yPl a r = true) (h4 : yPl a u = true) : Rd l D cI cZ cJ yL_isPossible wsL_isPossible 4 87 [.ref hT, .int q, .int t, .int r, .int u] [cT hT hB hV a, cB hB hG tr, cA cI hG 1120 g] (bI (decide (t &&& (-256) = 0) && (yHs g (yWo t r u) K && yAgr (yWo t r u) tr (yKn a q)))) := by
  refine rd_ofH (by decide) rfl (Nat.le_of_ble_eq_true rfl) (fun p e s m below meth c ls hx hb hr hml hts hown hlocks hP hK hN hl => ?_)
  have hl : lv_has ls 7 [(0, .ref hT), (1, .int q), (2, .int t), (3, .int r), (4, .int u)] := hl
  refine lv_aload_n hx hb dL_isPossible_0 rfl (lv_at hl 0 rfl) ?_
  refine lv_iload_n hx hb dL_isPossible_1 rfl (lv_at hl 1 rfl) ?_
  refine lv_iload_n hx hb dL_isPossible_2 rfl (lv_at hl 2 rfl) ?_
  refine lv_iload_n hx hb dL_isPossible_3 rfl (lv_at hl 3 rfl) ?_
  refine lv_iload hx hb dL_isPossible_4 (lv_at hl 4 rfl) ?_
  refine rd_V (b := hT) (As := [.int q, .int t, .int r, .int u]) (rest := []) ⟨hx, hb, hml, hown, hts⟩ (c_X1_isPossible l D cI cZ cJ hT hB hV a hG tr g q t r u K hK9 hg hz h1 h2 h3 h4) (cwV 4 hts gL_isPossible_X1_isPossible rfl rfl rfl (by decide +kernel) ⟨Nat.le_of_ble_eq_true rfl, Nat.le_of_ble_eq_true rfl⟩) (hP.sub (ws' := [cT hT hB hV a, cB hB hG tr, cA cI hG 1120 g]) [0, 1, 2] rfl) hK hN (va_recv hK hP (ci := 1) (q0 := 0) rfl rfl) rfl hl.1 rfl (Nat.le_of_ble_eq_true rfl) dL_isPossible_6 ⟨Nat.le_of_ble_eq_true rfl, Nat.le_of_ble_eq_true rfl⟩ ?_
  refine lv_istore (lv' := [(5, .int (bI (decide (t &&& (-256) = 0) && (yHs g (yWo t r u) K && yAgr (yWo t r u) tr (yKn a q))))), (0, .ref hT), (1, .int q), (2, .int t), (3, .int r), (4, .int u)]) hx hb dL_isPossible_9 hl (by decide) rfl (fun ls hl => ?_)
  refine lv_goto (tgt := 24) hx hb dL_isPossible_11 (by decide) ?_
  refine lv_iload hx hb dL_isPossible_24 (lv_at hl 0 rfl) ?_
  refine lv_if_eq (tgt := 33) hx hb dL_isPossible_26 (by decide) (fun c1 => ?_) (fun c1 => ?_)
  · refine lv_iconst (v := 0) hx hb dL_isPossible_33 (by decide) ?_
    exact rd_iret hx hb hr hlocks c1.symm dL_isPossible_34
  · refine lv_iconst (v := 1) hx hb dL_isPossible_29 (by decide) ?_
    refine lv_goto (tgt := 34) hx hb dL_isPossible_30 (by decide) ?_
    exact rd_iret hx hb hr hlocks (congrArg bI (bI_1 c1)).symm dL_isPossible_34

set_option maxHeartbeats 2000000 in
theorem c_L_start (l : Launch) (D : va_G) (cI cZ cJ : ClassId) (sz : Nat) (hT hB hV : Nat) (a : Nat → Int32) (hG : Nat) (tr : Int32) (g v : Nat → Int32) (n W x y : Nat) (P : Nat → Bool) (hn8 : n ≤ 8) (hP9 : ∀ W9 x9 y9, W9 < 2 ^ n → x9 < n → y9 < n → yPop (nI W9) = yPop ((yWo (nI W) (nI x) (nI y)) &&& 255) → P (64 * W9 + (8 * x9 + y9)) = (!decide (nI x9 = nI y9) && yHo (nI n) (nI W9) (nI x9) && yHo (nI n) (nI W9) (nI y9))) (hF9 : ∀ W9 x9 y9, W9 < 256 → x9 < 8 → y9 < 8 → (W9 = 0 ∨ 2 ^ n ≤ W9 ∨ ¬ yPop (nI W9) = yPop ((yWo (nI W) (nI x) (nI y)) &&& 255) ∨ n ≤ x9 ∨ n ≤ y9) → P (64 * W9 + (8 * x9 + y9)) = false) (hB9 : nCt P 16384 ≤ 1120) (hg0 : ∀ j, 1120 ≤ j → g j = 0) (hE9 : ∀ b, P b = true → ¬ yEnc b = 0) (h1 : yGood (nI n) (nI W) (nI x) (nI y) = true) : Mi l D cI cZ cJ yL_start wsL_start 5 118 sz [.ref hT, .int (nI n), .int (nI W), .int (nI x), .int (nI y)] [cT hT hB hV a, cB hB hG tr, cA cI hG 1120 g, cA cI hV 8 v] [cT hT hB hV (aYs a (nI n) (nI W) (nI x) (nI y)), cB hB hG (yWo (nI W) (nI x) (nI y)), cA cI hG 1120 (pgF P 16384), cA cI hV 8 (iUp vM v 8)] (xCnt (pAg (pgF P 16384) (yWo (nI W) (nI x) (nI y)) (yKn (aYs a (nI n) (nI W) (nI x) (nI y)) (-1))) (nCt P 16384)) := by
  refine mi_ofH (by decide) rfl (Nat.le_of_ble_eq_true rfl) (fun p e s m below meth c ls A hx hb hr hml hts hown hlocks hP hK hN hD hA hS hl => ?_)
  have hl : lv_has ls 7 [(0, .ref hT), (1, .int (nI n)), (2, .int (nI W)), (3, .int (nI x)), (4, .int (nI y))] := hl
  refine lv_aload_n hx hb dL_start_0 rfl (lv_at hl 0 rfl) ?_
  refine lv_iload_n hx hb dL_start_1 rfl (lv_at hl 1 rfl) ?_
  refine lv_iload_n hx hb dL_start_2 rfl (lv_at hl 2 rfl) ?_
  refine lv_iload_n hx hb dL_start_3 rfl (lv_at hl 3 rfl) ?_
  refine lv_iload hx hb dL_start_4 (lv_at hl 4 rfl) ?_
  refine mi_V (b := hT) (As := [.int (nI n), .int (nI W), .int (nI x), .int (nI y)]) (rest := []) (W2 := [cT hT hB hV (aYs a (nI n) (nI W) (nI x) (nI y)), cB hB hG (yWo (nI W) (nI x) (nI y)), cA cI hG 1120 (pgF P 16384), cA cI hV 8 (iUp vM v 8)]) ⟨hx, hb, hml, hown, hts⟩ (c_X1_start l D cI cZ cJ _ hT hB hV a hG tr g v n W x y P hn8 hP9 hF9 hB9 hg0 hE9 h1) (cwV 4 hts gL_start_X1_start rfl rfl rfl (by decide +kernel) ⟨Nat.le_of_ble_eq_true rfl, Nat.le_of_ble_eq_true rfl⟩) hP hD hK hN hS hA (va_recv hK hP (ci := 1) (q0 := 0) rfl rfl) rfl hl.1 rfl (Nat.le_of_ble_eq_true rfl) dL_start_6 ⟨Nat.le_of_ble_eq_true rfl, Nat.le_of_ble_eq_true rfl⟩ [0, 1, 2, 3] [] rfl rfl rfl (fun i hi => nomatch hi) rfl 4 rfl (by decide) (by decide) (fun H locs hP hD hS => ?_)
  refine lv_istore (lv' := [(5, .int (xCnt (pAg (pgF P 16384) (yWo (nI W) (nI x) (nI y)) (yKn (aYs a (nI n) (nI W) (nI x) (nI y)) (-1))) (nCt P 16384))), (0, .ref hT), (1, .int (nI n)), (2, .int (nI W)), (3, .int (nI x)), (4, .int (nI y))]) hx hb dL_start_9 hl (by decide) rfl (fun ls hl => ?_)
  refine lv_goto (tgt := 19) hx hb dL_start_11 (by decide) ?_
  refine lv_iload hx hb dL_start_19 (lv_at hl 0 rfl) ?_
  exact mi_iret hx hb hr hlocks hS rfl hP dL_start_21
