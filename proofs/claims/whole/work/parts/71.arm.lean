/-! the arms of the law: protect, attack, look, endNight, day, alive -/
section LawArms
variable {p : Program} {l : Launch} {e : Env} {s : State} {m : MethodId} {args : Array Value} {below : List Frame} {meth : Method} {c : Code} {cells slots : Nat} {Q : State → Prop} {D : va_G} {cI cZ cJ : ClassId} {A : Nat → Prop} {b L hT hB hV hG hX hM hO hW hY i : Nat} {xs : Nat → Int32} {a g v a' mn : Nat → Int32} {tr th : Int32} {ot : Nat → Int64} {o : Nat → Bool} {H : Heap} {locs : List Loc} {ls : Array Slot}
set_option maxHeartbeats 4000000 in
set_option maxRecDepth 100000 in
theorem arm_protect (G : LG p l s m args c D cI cZ cJ A b L xs) (hcs : cells + 1 ≤ 1046 ∧ slots + 6 ≤ 25831) (J : JN p l e s m args below meth c cells slots Q D cI cZ cJ A b hT hB hV hG hX hM hO hW hY i) (hi : i + 4 < L) (hI : Inv a a' g tr v o) (hP : va_P D vwCl (LX cI cZ cJ hT hB hV hG hX hM hO hW hY a tr g v ot th a' o v mn) H) (hD : va_D A (LX cI cZ cJ hT hB hV hG hX hM hO hW hY a tr g v ot th a' o v mn)) (hS : va_S A s.heap H locs) (hl : lv_has ls 7 [(0, .ref b), (1, .ref hT), (2, .ref hM), (3, .ref hX), (4, .int (nI i))]) : W p l e room_1 s m args below meth c H locs cells slots Q (F0 m 505 ls []) := by
  obtain ⟨hx, hb, hml, hown, htL, hK, hN, hY9, hNX, hst, hX9, hbl, hbA, hA, hZ, hL9⟩ := id G
  have hf0 : cells ≤ 1046 ∧ slots ≤ 25831 := by omega
  refine lv_aload_n hx hb dL_law_505 rfl (lv_at hl 1 rfl) ?_
  refine law_ld (k := 1) hx hb hX9 hbl hbA hS (lv_at hl 0 rfl) (lv_at hl 4 rfl) rfl (by omega) hL9 dL_law_506 dL_law_507 dL_law_509 dL_law_510 dL_law_511 ?_
  refine lv_aload_n hx hb dL_law_512 rfl (lv_at hl 3 rfl) ?_
  by_cases c0 : kYp a (xs (i + 1)) = 0
  · obtain ⟨m1, p2, p3, p4, p5⟩ := kYp_ok c0
    have n0 : ¬ a 0 = 0 := by rw [m1]; decide
    obtain ⟨ea, hg⟩ := iv_on hI n0
    rw [ea] at hP hD hI
    have hk0 : kPr a (xs (i + 1)) = 0 := (iv_kPr hI (xs (i + 1))).trans c0
    refine mi_SW (As := [.ref hT, .int (xs (i + 1)), .ref hX]) (rest := []) (W2 := LX cI cZ cJ hT hB hV hG hX hM hO hW hY (upd a 8 (xs (i + 1))) tr g v (vp_updL ot 0 (a 8).toInt64) th a o v mn) ⟨hx, hb, hml, hown, htL⟩ (c_L_protect l D cI cZ cJ _ hT hB hV a hX ot (xs (i + 1)) m1 p2 p3 p4 p5) (vx_cwSW 3 htL gL_law_L_protect rfl rfl rfl (by decide +kernel) ⟨Nat.le_of_ble_eq_true rfl, Nat.le_of_ble_eq_true rfl⟩) hP hD hK hN hS hA rfl hl.1 rfl (Nat.le_of_ble_eq_true rfl) dL_law_513 hf0 [0, 4] [1, 2, 3, 5, 6, 7, 8] rfl rfl rfl (by intro i9 h9; simp only [List.mem_cons, List.not_mem_nil, or_false] at h9; rcases h9 with rfl | rfl | rfl | rfl | rfl | rfl | rfl <;> rfl) rfl 9 rfl (by decide) (by decide) (fun H locs hP hD hS => ?_)
    refine lv_istore (lv' := [(5, .int 0), (0, .ref b), (1, .ref hT), (2, .ref hM), (3, .ref hX), (4, .int (nI i))]) hx hb dL_law_516 hl (by decide) rfl (fun ls hl => ?_)
    refine lv_aload_n hx hb dL_law_518 rfl (lv_at hl 3 rfl) ?_
    refine law_ld (k := 1) hx hb hX9 hbl hbA hS (lv_at hl 1 rfl) (lv_at hl 5 rfl) rfl (by omega) hL9 dL_law_519 dL_law_520 dL_law_522 dL_law_523 dL_law_524 ?_
    refine mi_V (b := hM) (As := [.int (xs (i + 1))]) (rest := []) (W2 := LX cI cZ cJ hT hB hV hG hX hM hO hW hY (upd a 8 (xs (i + 1))) tr g v (vp_updL ot 0 (a 8).toInt64) 0 (upd a 8 (xs (i + 1))) o v mn) ⟨hx, hb, hml, hown, htL⟩ (c_X2_protect l D cI cZ cJ _ hM hO hW hY th a (xs (i + 1)) hk0) (cwV 1 htL gL_law_X2_protect rfl rfl rfl (by decide +kernel) ⟨Nat.le_of_ble_eq_true rfl, Nat.le_of_ble_eq_true rfl⟩) hP hD hK hN hS hA (va_recv hK hP (ci := 2) (q0 := 5) rfl rfl) rfl hl.1 rfl (Nat.le_of_ble_eq_true rfl) dL_law_525 hf0 [5] [0, 1, 2, 3, 4, 6, 7, 8] rfl rfl rfl (by intro i9 h9; simp only [List.mem_cons, List.not_mem_nil, or_false] at h9; rcases h9 with rfl | rfl | rfl | rfl | rfl | rfl | rfl | rfl <;> rfl) rfl 9 rfl (by decide) (by decide) (fun H locs hP hD hS => ?_)
    exact law_tail G hcs ⟨by omega, by omega⟩ J dL_law_528 dL_law_530 dL_law_531 dL_law_534 dL_law_536 dL_law_541 dL_law_543 dL_law_546 dL_law_547 dL_law_548 dL_law_549 dL_law_551 dL_law_552 dL_law_553 dL_law_558 (by decide) (iv_choice hI m1 p3 (by decide)) hP hD hS hl rfl (fun _ => rfl)
  · skip
    refine mx_SW (As := [.ref hT, .int (xs (i + 1)), .ref hX]) (rest := []) ⟨hx, hb, hml, hown, htL⟩ (f_L_protect l D cI cZ cJ _ hst hT hB hV a hX ot (xs (i + 1)) c0) (vx_cwSW 3 htL gL_law_L_protect rfl rfl rfl (by decide +kernel) ⟨Nat.le_of_ble_eq_true rfl, Nat.le_of_ble_eq_true rfl⟩) hP hD hK hN hY9 hNX hS hA hZ rfl hl.1 rfl (Nat.le_of_ble_eq_true rfl) dL_law_513 hcs [0, 4] [1, 2, 3, 5, 6, 7, 8] rfl rfl 9 rfl (by decide) (by decide) (fun H locs hP hD hS => ?_)
    refine lv_istore (lv' := [(5, .int (kYp a (xs (i + 1)))), (0, .ref b), (1, .ref hT), (2, .ref hM), (3, .ref hX), (4, .int (nI i))]) hx hb dL_law_516 hl (by decide) rfl (fun ls hl => ?_)
    refine lv_aload_n hx hb dL_law_518 rfl (lv_at hl 3 rfl) ?_
    refine law_ld (k := 1) hx hb hX9 hbl hbA hS (lv_at hl 1 rfl) (lv_at hl 5 rfl) rfl (by omega) hL9 dL_law_519 dL_law_520 dL_law_522 dL_law_523 dL_law_524 ?_
    refine mi_V (b := hM) (As := [.int (xs (i + 1))]) (rest := []) (W2 := LX cI cZ cJ hT hB hV hG hX hM hO hW hY a tr g v ot (kPr a' (xs (i + 1))) a' o v mn) ⟨hx, hb, hml, hown, htL⟩ (f_X2_protect l D cI cZ cJ _ hM hO hW hY th a' (xs (i + 1)) (by rw [iv_kPr hI]; exact c0)) (cwV 1 htL gL_law_X2_protect rfl rfl rfl (by decide +kernel) ⟨Nat.le_of_ble_eq_true rfl, Nat.le_of_ble_eq_true rfl⟩) hP hD hK hN hS hA (va_recv hK hP (ci := 2) (q0 := 5) rfl rfl) rfl hl.1 rfl (Nat.le_of_ble_eq_true rfl) dL_law_525 hcs [5] [0, 1, 2, 3, 4, 6, 7, 8] rfl rfl rfl (by intro i9 h9; simp only [List.mem_cons, List.not_mem_nil, or_false] at h9; rcases h9 with rfl | rfl | rfl | rfl | rfl | rfl | rfl | rfl <;> rfl) rfl 9 rfl (by decide) (by decide) (fun H locs hP hD hS => ?_)
    exact law_tail G hcs ⟨by omega, by omega⟩ J dL_law_528 dL_law_530 dL_law_531 dL_law_534 dL_law_536 dL_law_541 dL_law_543 dL_law_546 dL_law_547 dL_law_548 dL_law_549 dL_law_551 dL_law_552 dL_law_553 dL_law_558 (by decide) hI hP hD hS hl (iv_kPr hI (xs (i + 1))) (fun h9 => absurd h9 c0)

set_option maxHeartbeats 4000000 in
set_option maxRecDepth 100000 in
theorem arm_attack (G : LG p l s m args c D cI cZ cJ A b L xs) (hcs : cells + 1 ≤ 1046 ∧ slots + 6 ≤ 25831) (J : JN p l e s m args below meth c cells slots Q D cI cZ cJ A b hT hB hV hG hX hM hO hW hY i) (hi : i + 4 < L) (hI : Inv a a' g tr v o) (hP : va_P D vwCl (LX cI cZ cJ hT hB hV hG hX hM hO hW hY a tr g v ot th a' o v mn) H) (hD : va_D A (LX cI cZ cJ hT hB hV hG hX hM hO hW hY a tr g v ot th a' o v mn)) (hS : va_S A s.heap H locs) (hl : lv_has ls 7 [(0, .ref b), (1, .ref hT), (2, .ref hM), (3, .ref hX), (4, .int (nI i))]) : W p l e room_1 s m args below meth c H locs cells slots Q (F0 m 561 ls []) := by
  obtain ⟨hx, hb, hml, hown, htL, hK, hN, hY9, hNX, hst, hX9, hbl, hbA, hA, hZ, hL9⟩ := id G
  have hf0 : cells ≤ 1046 ∧ slots ≤ 25831 := by omega
  refine lv_aload_n hx hb dL_law_561 rfl (lv_at hl 1 rfl) ?_
  refine law_ld (k := 1) hx hb hX9 hbl hbA hS (lv_at hl 0 rfl) (lv_at hl 4 rfl) rfl (by omega) hL9 dL_law_562 dL_law_563 dL_law_565 dL_law_566 dL_law_567 ?_
  refine lv_aload_n hx hb dL_law_568 rfl (lv_at hl 3 rfl) ?_
  by_cases c0 : kYt a (xs (i + 1)) = 0
  · obtain ⟨m1, p3, p4, p5⟩ := kYt_ok c0
    have n0 : ¬ a 0 = 0 := by rw [m1]; decide
    obtain ⟨ea, hg⟩ := iv_on hI n0
    rw [ea] at hP hD hI
    have hk0 : kAt a (xs (i + 1)) = 0 := (iv_kAt hI (xs (i + 1))).trans c0
    refine mi_SW (As := [.ref hT, .int (xs (i + 1)), .ref hX]) (rest := []) (W2 := LX cI cZ cJ hT hB hV hG hX hM hO hW hY (upd a 9 (xs (i + 1))) tr g v (vp_updL ot 0 (a 9).toInt64) th a o v mn) ⟨hx, hb, hml, hown, htL⟩ (c_L_attack l D cI cZ cJ _ hT hB hV a hX ot (xs (i + 1)) m1 p3 p4 p5) (vx_cwSW 3 htL gL_law_L_attack rfl rfl rfl (by decide +kernel) ⟨Nat.le_of_ble_eq_true rfl, Nat.le_of_ble_eq_true rfl⟩) hP hD hK hN hS hA rfl hl.1 rfl (Nat.le_of_ble_eq_true rfl) dL_law_569 hf0 [0, 4] [1, 2, 3, 5, 6, 7, 8] rfl rfl rfl (by intro i9 h9; simp only [List.mem_cons, List.not_mem_nil, or_false] at h9; rcases h9 with rfl | rfl | rfl | rfl | rfl | rfl | rfl <;> rfl) rfl 9 rfl (by decide) (by decide) (fun H locs hP hD hS => ?_)
    refine lv_istore (lv' := [(5, .int 0), (0, .ref b), (1, .ref hT), (2, .ref hM), (3, .ref hX), (4, .int (nI i))]) hx hb dL_law_572 hl (by decide) rfl (fun ls hl => ?_)
    refine lv_aload_n hx hb dL_law_574 rfl (lv_at hl 3 rfl) ?_
    refine law_ld (k := 1) hx hb hX9 hbl hbA hS (lv_at hl 1 rfl) (lv_at hl 5 rfl) rfl (by omega) hL9 dL_law_575 dL_law_576 dL_law_578 dL_law_579 dL_law_580 ?_
    refine mi_V (b := hM) (As := [.int (xs (i + 1))]) (rest := []) (W2 := LX cI cZ cJ hT hB hV hG hX hM hO hW hY (upd a 9 (xs (i + 1))) tr g v (vp_updL ot 0 (a 9).toInt64) 0 (upd a 9 (xs (i + 1))) o v mn) ⟨hx, hb, hml, hown, htL⟩ (c_X2_attack l D cI cZ cJ _ hM hO hW hY th a (xs (i + 1)) hk0) (cwV 1 htL gL_law_X2_attack rfl rfl rfl (by decide +kernel) ⟨Nat.le_of_ble_eq_true rfl, Nat.le_of_ble_eq_true rfl⟩) hP hD hK hN hS hA (va_recv hK hP (ci := 2) (q0 := 5) rfl rfl) rfl hl.1 rfl (Nat.le_of_ble_eq_true rfl) dL_law_581 hf0 [5] [0, 1, 2, 3, 4, 6, 7, 8] rfl rfl rfl (by intro i9 h9; simp only [List.mem_cons, List.not_mem_nil, or_false] at h9; rcases h9 with rfl | rfl | rfl | rfl | rfl | rfl | rfl | rfl <;> rfl) rfl 9 rfl (by decide) (by decide) (fun H locs hP hD hS => ?_)
    exact law_tail G hcs ⟨by omega, by omega⟩ J dL_law_584 dL_law_586 dL_law_587 dL_law_590 dL_law_592 dL_law_597 dL_law_599 dL_law_602 dL_law_603 dL_law_604 dL_law_605 dL_law_607 dL_law_608 dL_law_609 dL_law_614 (by decide) (iv_choice hI m1 p3 (by decide)) hP hD hS hl rfl (fun _ => rfl)
  · skip
    refine mx_SW (As := [.ref hT, .int (xs (i + 1)), .ref hX]) (rest := []) ⟨hx, hb, hml, hown, htL⟩ (f_L_attack l D cI cZ cJ _ hst hT hB hV a hX ot (xs (i + 1)) c0) (vx_cwSW 3 htL gL_law_L_attack rfl rfl rfl (by decide +kernel) ⟨Nat.le_of_ble_eq_true rfl, Nat.le_of_ble_eq_true rfl⟩) hP hD hK hN hY9 hNX hS hA hZ rfl hl.1 rfl (Nat.le_of_ble_eq_true rfl) dL_law_569 hcs [0, 4] [1, 2, 3, 5, 6, 7, 8] rfl rfl 9 rfl (by decide) (by decide) (fun H locs hP hD hS => ?_)
    refine lv_istore (lv' := [(5, .int (kYt a (xs (i + 1)))), (0, .ref b), (1, .ref hT), (2, .ref hM), (3, .ref hX), (4, .int (nI i))]) hx hb dL_law_572 hl (by decide) rfl (fun ls hl => ?_)
    refine lv_aload_n hx hb dL_law_574 rfl (lv_at hl 3 rfl) ?_
    refine law_ld (k := 1) hx hb hX9 hbl hbA hS (lv_at hl 1 rfl) (lv_at hl 5 rfl) rfl (by omega) hL9 dL_law_575 dL_law_576 dL_law_578 dL_law_579 dL_law_580 ?_
    refine mi_V (b := hM) (As := [.int (xs (i + 1))]) (rest := []) (W2 := LX cI cZ cJ hT hB hV hG hX hM hO hW hY a tr g v ot (kAt a' (xs (i + 1))) a' o v mn) ⟨hx, hb, hml, hown, htL⟩ (f_X2_attack l D cI cZ cJ _ hM hO hW hY th a' (xs (i + 1)) (by rw [iv_kAt hI]; exact c0)) (cwV 1 htL gL_law_X2_attack rfl rfl rfl (by decide +kernel) ⟨Nat.le_of_ble_eq_true rfl, Nat.le_of_ble_eq_true rfl⟩) hP hD hK hN hS hA (va_recv hK hP (ci := 2) (q0 := 5) rfl rfl) rfl hl.1 rfl (Nat.le_of_ble_eq_true rfl) dL_law_581 hcs [5] [0, 1, 2, 3, 4, 6, 7, 8] rfl rfl rfl (by intro i9 h9; simp only [List.mem_cons, List.not_mem_nil, or_false] at h9; rcases h9 with rfl | rfl | rfl | rfl | rfl | rfl | rfl | rfl <;> rfl) rfl 9 rfl (by decide) (by decide) (fun H locs hP hD hS => ?_)
    exact law_tail G hcs ⟨by omega, by omega⟩ J dL_law_584 dL_law_586 dL_law_587 dL_law_590 dL_law_592 dL_law_597 dL_law_599 dL_law_602 dL_law_603 dL_law_604 dL_law_605 dL_law_607 dL_law_608 dL_law_609 dL_law_614 (by decide) hI hP hD hS hl (iv_kAt hI (xs (i + 1))) (fun h9 => absurd h9 c0)

set_option maxHeartbeats 4000000 in
set_option maxRecDepth 100000 in
theorem arm_look (G : LG p l s m args c D cI cZ cJ A b L xs) (hcs : cells + 1 ≤ 1046 ∧ slots + 6 ≤ 25831) (J : JN p l e s m args below meth c cells slots Q D cI cZ cJ A b hT hB hV hG hX hM hO hW hY i) (hi : i + 4 < L) (hI : Inv a a' g tr v o) (hP : va_P D vwCl (LX cI cZ cJ hT hB hV hG hX hM hO hW hY a tr g v ot th a' o v mn) H) (hD : va_D A (LX cI cZ cJ hT hB hV hG hX hM hO hW hY a tr g v ot th a' o v mn)) (hS : va_S A s.heap H locs) (hl : lv_has ls 7 [(0, .ref b), (1, .ref hT), (2, .ref hM), (3, .ref hX), (4, .int (nI i))]) : W p l e room_1 s m args below meth c H locs cells slots Q (F0 m 617 ls []) := by
  obtain ⟨hx, hb, hml, hown, htL, hK, hN, hY9, hNX, hst, hX9, hbl, hbA, hA, hZ, hL9⟩ := id G
  have hf0 : cells ≤ 1046 ∧ slots ≤ 25831 := by omega
  refine lv_aload_n hx hb dL_law_617 rfl (lv_at hl 1 rfl) ?_
  refine law_ld (k := 1) hx hb hX9 hbl hbA hS (lv_at hl 0 rfl) (lv_at hl 4 rfl) rfl (by omega) hL9 dL_law_618 dL_law_619 dL_law_621 dL_law_622 dL_law_623 ?_
  refine lv_aload_n hx hb dL_law_624 rfl (lv_at hl 3 rfl) ?_
  by_cases c0 : kYl a (xs (i + 1)) = 0
  · obtain ⟨m1, p2, p3, p4, p5⟩ := kYl_ok c0
    have n0 : ¬ a 0 = 0 := by rw [m1]; decide
    obtain ⟨ea, hg⟩ := iv_on hI n0
    rw [ea] at hP hD hI
    have hk0 : kLo a (xs (i + 1)) = 0 := (iv_kLo hI (xs (i + 1))).trans c0
    refine mi_SW (As := [.ref hT, .int (xs (i + 1)), .ref hX]) (rest := []) (W2 := LX cI cZ cJ hT hB hV hG hX hM hO hW hY (upd a 10 (xs (i + 1))) tr g v (vp_updL ot 0 (a 10).toInt64) th a o v mn) ⟨hx, hb, hml, hown, htL⟩ (c_L_look l D cI cZ cJ _ hT hB hV a hX ot (xs (i + 1)) m1 p2 p3 p4 p5) (vx_cwSW 3 htL gL_law_L_look rfl rfl rfl (by decide +kernel) ⟨Nat.le_of_ble_eq_true rfl, Nat.le_of_ble_eq_true rfl⟩) hP hD hK hN hS hA rfl hl.1 rfl (Nat.le_of_ble_eq_true rfl) dL_law_625 hf0 [0, 4] [1, 2, 3, 5, 6, 7, 8] rfl rfl rfl (by intro i9 h9; simp only [List.mem_cons, List.not_mem_nil, or_false] at h9; rcases h9 with rfl | rfl | rfl | rfl | rfl | rfl | rfl <;> rfl) rfl 9 rfl (by decide) (by decide) (fun H locs hP hD hS => ?_)
    refine lv_istore (lv' := [(5, .int 0), (0, .ref b), (1, .ref hT), (2, .ref hM), (3, .ref hX), (4, .int (nI i))]) hx hb dL_law_628 hl (by decide) rfl (fun ls hl => ?_)
    refine lv_aload_n hx hb dL_law_630 rfl (lv_at hl 3 rfl) ?_
    refine law_ld (k := 1) hx hb hX9 hbl hbA hS (lv_at hl 1 rfl) (lv_at hl 5 rfl) rfl (by omega) hL9 dL_law_631 dL_law_632 dL_law_634 dL_law_635 dL_law_636 ?_
    refine mi_V (b := hM) (As := [.int (xs (i + 1))]) (rest := []) (W2 := LX cI cZ cJ hT hB hV hG hX hM hO hW hY (upd a 10 (xs (i + 1))) tr g v (vp_updL ot 0 (a 10).toInt64) 0 (upd a 10 (xs (i + 1))) o v mn) ⟨hx, hb, hml, hown, htL⟩ (c_X2_look l D cI cZ cJ _ hM hO hW hY th a (xs (i + 1)) hk0) (cwV 1 htL gL_law_X2_look rfl rfl rfl (by decide +kernel) ⟨Nat.le_of_ble_eq_true rfl, Nat.le_of_ble_eq_true rfl⟩) hP hD hK hN hS hA (va_recv hK hP (ci := 2) (q0 := 5) rfl rfl) rfl hl.1 rfl (Nat.le_of_ble_eq_true rfl) dL_law_637 hf0 [5] [0, 1, 2, 3, 4, 6, 7, 8] rfl rfl rfl (by intro i9 h9; simp only [List.mem_cons, List.not_mem_nil, or_false] at h9; rcases h9 with rfl | rfl | rfl | rfl | rfl | rfl | rfl | rfl <;> rfl) rfl 9 rfl (by decide) (by decide) (fun H locs hP hD hS => ?_)
    exact law_tail G hcs ⟨by omega, by omega⟩ J dL_law_640 dL_law_642 dL_law_643 dL_law_646 dL_law_648 dL_law_653 dL_law_655 dL_law_658 dL_law_659 dL_law_660 dL_law_661 dL_law_663 dL_law_664 dL_law_665 dL_law_670 (by decide) (iv_choice hI m1 p3 (by decide)) hP hD hS hl rfl (fun _ => rfl)
  · skip
    refine mx_SW (As := [.ref hT, .int (xs (i + 1)), .ref hX]) (rest := []) ⟨hx, hb, hml, hown, htL⟩ (f_L_look l D cI cZ cJ _ hst hT hB hV a hX ot (xs (i + 1)) c0) (vx_cwSW 3 htL gL_law_L_look rfl rfl rfl (by decide +kernel) ⟨Nat.le_of_ble_eq_true rfl, Nat.le_of_ble_eq_true rfl⟩) hP hD hK hN hY9 hNX hS hA hZ rfl hl.1 rfl (Nat.le_of_ble_eq_true rfl) dL_law_625 hcs [0, 4] [1, 2, 3, 5, 6, 7, 8] rfl rfl 9 rfl (by decide) (by decide) (fun H locs hP hD hS => ?_)
    refine lv_istore (lv' := [(5, .int (kYl a (xs (i + 1)))), (0, .ref b), (1, .ref hT), (2, .ref hM), (3, .ref hX), (4, .int (nI i))]) hx hb dL_law_628 hl (by decide) rfl (fun ls hl => ?_)
    refine lv_aload_n hx hb dL_law_630 rfl (lv_at hl 3 rfl) ?_
    refine law_ld (k := 1) hx hb hX9 hbl hbA hS (lv_at hl 1 rfl) (lv_at hl 5 rfl) rfl (by omega) hL9 dL_law_631 dL_law_632 dL_law_634 dL_law_635 dL_law_636 ?_
    refine mi_V (b := hM) (As := [.int (xs (i + 1))]) (rest := []) (W2 := LX cI cZ cJ hT hB hV hG hX hM hO hW hY a tr g v ot (kLo a' (xs (i + 1))) a' o v mn) ⟨hx, hb, hml, hown, htL⟩ (f_X2_look l D cI cZ cJ _ hM hO hW hY th a' (xs (i + 1)) (by rw [iv_kLo hI]; exact c0)) (cwV 1 htL gL_law_X2_look rfl rfl rfl (by decide +kernel) ⟨Nat.le_of_ble_eq_true rfl, Nat.le_of_ble_eq_true rfl⟩) hP hD hK hN hS hA (va_recv hK hP (ci := 2) (q0 := 5) rfl rfl) rfl hl.1 rfl (Nat.le_of_ble_eq_true rfl) dL_law_637 hcs [5] [0, 1, 2, 3, 4, 6, 7, 8] rfl rfl rfl (by intro i9 h9; simp only [List.mem_cons, List.not_mem_nil, or_false] at h9; rcases h9 with rfl | rfl | rfl | rfl | rfl | rfl | rfl | rfl <;> rfl) rfl 9 rfl (by decide) (by decide) (fun H locs hP hD hS => ?_)
    exact law_tail G hcs ⟨by omega, by omega⟩ J dL_law_640 dL_law_642 dL_law_643 dL_law_646 dL_law_648 dL_law_653 dL_law_655 dL_law_658 dL_law_659 dL_law_660 dL_law_661 dL_law_663 dL_law_664 dL_law_665 dL_law_670 (by decide) hI hP hD hS hl (iv_kLo hI (xs (i + 1))) (fun h9 => absurd h9 c0)

set_option maxHeartbeats 4000000 in
set_option maxRecDepth 100000 in
theorem arm_endNight (G : LG p l s m args c D cI cZ cJ A b L xs) (hcs : cells + 1 ≤ 1046 ∧ slots + 6 ≤ 25831) (J : JN p l e s m args below meth c cells slots Q D cI cZ cJ A b hT hB hV hG hX hM hO hW hY i) (hi : i + 4 < L) (hI : Inv a a' g tr v o) (hP : va_P D vwCl (LX cI cZ cJ hT hB hV hG hX hM hO hW hY a tr g v ot th a' o v mn) H) (hD : va_D A (LX cI cZ cJ hT hB hV hG hX hM hO hW hY a tr g v ot th a' o v mn)) (hS : va_S A s.heap H locs) (hl : lv_has ls 7 [(0, .ref b), (1, .ref hT), (2, .ref hM), (3, .ref hX), (4, .int (nI i))]) : W p l e room_1 s m args below meth c H locs cells slots Q (F0 m 673 ls []) := by
  obtain ⟨hx, hb, hml, hown, htL, hK, hN, hY9, hNX, hst, hX9, hbl, hbA, hA, hZ, hL9⟩ := id G
  have hf0 : cells ≤ 1046 ∧ slots ≤ 25831 := by omega
  refine lv_aload_n hx hb dL_law_673 rfl (lv_at hl 1 rfl) ?_
  refine lv_aload_n hx hb dL_law_674 rfl (lv_at hl 3 rfl) ?_
  by_cases c0 : kYh a 2 = 0
  · have m1 := kYh_ok c0
    have n0 : ¬ a 0 = 0 := by rw [m1]; decide
    obtain ⟨ea, hg⟩ := iv_on hI n0
    rw [ea] at hP hD hI
    obtain ⟨ec, hg2, ev⟩ := en_in hg m1
    refine mi_SW (As := [.ref hT, .ref hX]) (rest := []) (W2 := LX cI cZ cJ hT hB hV hG hX hM hO hW hY (aYe a) tr g v (vp_updL ot 0 (xDead a).toInt64) th a o v mn) ⟨hx, hb, hml, hown, htL⟩ (c_L_endNight l D cI cZ cJ _ hT hB hV a hX ot m1) (vx_cwSW 2 htL gL_law_L_endNight rfl rfl rfl (by decide +kernel) ⟨Nat.le_of_ble_eq_true rfl, Nat.le_of_ble_eq_true rfl⟩) hP hD hK hN hS hA rfl hl.1 rfl (Nat.le_of_ble_eq_true rfl) dL_law_675 hf0 [0, 4] [1, 2, 3, 5, 6, 7, 8] rfl rfl rfl (by intro i9 h9; simp only [List.mem_cons, List.not_mem_nil, or_false] at h9; rcases h9 with rfl | rfl | rfl | rfl | rfl | rfl | rfl <;> rfl) rfl 9 rfl (by decide) (by decide) (fun H locs hP hD hS => ?_)
    rw [ec] at hP hD
    refine lv_istore (lv' := [(5, .int 0), (0, .ref b), (1, .ref hT), (2, .ref hM), (3, .ref hX), (4, .int (nI i))]) hx hb dL_law_678 hl (by decide) rfl (fun ls hl => ?_)
    refine lv_aload_n hx hb dL_law_680 rfl (lv_at hl 3 rfl) ?_
    refine mi_V (b := hM) (As := []) (rest := []) (W2 := LX cI cZ cJ hT hB hV hG hX hM hO hW hY (aEn a) tr g v (vp_updL ot 0 (xDead a).toInt64) 0 (aEn a) (oDi a o (xDead a)) (iUp vM v 8) mn) ⟨hx, hb, hml, hown, htL⟩ (c_X2_endNight l D cI cZ cJ _ hM hO hW hY th a o v m1) (cwV 0 htL gL_law_X2_endNight rfl rfl rfl (by decide +kernel) ⟨Nat.le_of_ble_eq_true rfl, Nat.le_of_ble_eq_true rfl⟩) hP hD hK hN hS hA (va_recv hK hP (ci := 2) (q0 := 5) rfl rfl) rfl hl.1 rfl (Nat.le_of_ble_eq_true rfl) dL_law_681 hf0 [5, 6, 7] [0, 1, 2, 3, 4, 8] rfl rfl rfl (by intro i9 h9; simp only [List.mem_cons, List.not_mem_nil, or_false] at h9; rcases h9 with rfl | rfl | rfl | rfl | rfl | rfl <;> rfl) rfl 9 rfl (by decide) (by decide) (fun H locs hP hD hS => ?_)
    rw [ev] at hP hD
    exact law_tail G hcs ⟨by omega, by omega⟩ J dL_law_684 dL_law_686 dL_law_687 dL_law_690 dL_law_692 dL_law_697 dL_law_699 dL_law_702 dL_law_703 dL_law_704 dL_law_705 dL_law_707 dL_law_708 dL_law_709 dL_law_714 (by decide) ⟨hI.1, Or.inr ⟨rfl, hg2⟩⟩ hP hD hS hl rfl (fun _ => rfl)
  · skip
    refine mx_SW (As := [.ref hT, .ref hX]) (rest := []) ⟨hx, hb, hml, hown, htL⟩ (f_L_endNight l D cI cZ cJ _ hst hT hB hV a hX ot c0) (vx_cwSW 2 htL gL_law_L_endNight rfl rfl rfl (by decide +kernel) ⟨Nat.le_of_ble_eq_true rfl, Nat.le_of_ble_eq_true rfl⟩) hP hD hK hN hY9 hNX hS hA hZ rfl hl.1 rfl (Nat.le_of_ble_eq_true rfl) dL_law_675 hcs [0, 4] [1, 2, 3, 5, 6, 7, 8] rfl rfl 9 rfl (by decide) (by decide) (fun H locs hP hD hS => ?_)
    refine lv_istore (lv' := [(5, .int (kYh a 2)), (0, .ref b), (1, .ref hT), (2, .ref hM), (3, .ref hX), (4, .int (nI i))]) hx hb dL_law_678 hl (by decide) rfl (fun ls hl => ?_)
    refine lv_aload_n hx hb dL_law_680 rfl (lv_at hl 3 rfl) ?_
    refine mi_V (b := hM) (As := []) (rest := []) (W2 := LX cI cZ cJ hT hB hV hG hX hM hO hW hY a tr g v ot 1 a' o v mn) ⟨hx, hb, hml, hown, htL⟩ (f_X2_endNight l D cI cZ cJ _ hM hO hW hY th a' (by rw [iv_0 hI]; exact (kYh_no c0).1)) (cwV 0 htL gL_law_X2_endNight rfl rfl rfl (by decide +kernel) ⟨Nat.le_of_ble_eq_true rfl, Nat.le_of_ble_eq_true rfl⟩) hP hD hK hN hS hA (va_recv hK hP (ci := 2) (q0 := 5) rfl rfl) rfl hl.1 rfl (Nat.le_of_ble_eq_true rfl) dL_law_681 hcs [5] [0, 1, 2, 3, 4, 6, 7, 8] rfl rfl rfl (by intro i9 h9; simp only [List.mem_cons, List.not_mem_nil, or_false] at h9; rcases h9 with rfl | rfl | rfl | rfl | rfl | rfl | rfl | rfl <;> rfl) rfl 9 rfl (by decide) (by decide) (fun H locs hP hD hS => ?_)
    exact law_tail G hcs ⟨by omega, by omega⟩ J dL_law_684 dL_law_686 dL_law_687 dL_law_690 dL_law_692 dL_law_697 dL_law_699 dL_law_702 dL_law_703 dL_law_704 dL_law_705 dL_law_707 dL_law_708 dL_law_709 dL_law_714 (by decide) hI hP hD hS hl (kYh_no c0).2.symm (fun h9 => absurd h9 c0)

set_option maxHeartbeats 4000000 in
set_option maxRecDepth 100000 in
theorem arm_day (G : LG p l s m args c D cI cZ cJ A b L xs) (hcs : cells + 1 ≤ 1046 ∧ slots + 6 ≤ 25831) (J : JN p l e s m args below meth c cells slots Q D cI cZ cJ A b hT hB hV hG hX hM hO hW hY i) (hi : i + 4 < L) (hI : Inv a a' g tr v o) (hP : va_P D vwCl (LX cI cZ cJ hT hB hV hG hX hM hO hW hY a tr g v ot th a' o v mn) H) (hD : va_D A (LX cI cZ cJ hT hB hV hG hX hM hO hW hY a tr g v ot th a' o v mn)) (hS : va_S A s.heap H locs) (hl : lv_has ls 7 [(0, .ref b), (1, .ref hT), (2, .ref hM), (3, .ref hX), (4, .int (nI i))]) : W p l e room_1 s m args below meth c H locs cells slots Q (F0 m 717 ls []) := by
  obtain ⟨hx, hb, hml, hown, htL, hK, hN, hY9, hNX, hst, hX9, hbl, hbA, hA, hZ, hL9⟩ := id G
  have hf0 : cells ≤ 1046 ∧ slots ≤ 25831 := by omega
  refine lv_aload_n hx hb dL_law_717 rfl (lv_at hl 1 rfl) ?_
  refine lv_aload_n hx hb dL_law_718 rfl (lv_at hl 3 rfl) ?_
  by_cases c0 : kYg a = 0
  · have n0 := kYg_ok c0
    obtain ⟨ea, hg⟩ := iv_on hI n0
    rw [ea] at hP hD hI
    have ha : a 1 = (if xGm a = true then a 1 else 0) := (if_pos (xGm_on n0)).symm
    refine mi_SW (As := [.ref hT, .ref hX]) (rest := []) (W2 := LX cI cZ cJ hT hB hV hG hX hM hO hW hY a tr g v (vp_updL ot 0 (a 1).toInt64) th a o v mn) ⟨hx, hb, hml, hown, htL⟩ (c_L_day l D cI cZ cJ _ hT hB hV a hX ot n0) (vx_cwSW 2 htL gL_law_L_day rfl rfl rfl (by decide +kernel) ⟨Nat.le_of_ble_eq_true rfl, Nat.le_of_ble_eq_true rfl⟩) hP hD hK hN hS hA rfl hl.1 rfl (Nat.le_of_ble_eq_true rfl) dL_law_719 hf0 [0, 4] [1, 2, 3, 5, 6, 7, 8] rfl rfl rfl (by intro i9 h9; simp only [List.mem_cons, List.not_mem_nil, or_false] at h9; rcases h9 with rfl | rfl | rfl | rfl | rfl | rfl | rfl <;> rfl) rfl 9 rfl (by decide) (by decide) (fun H locs hP hD hS => ?_)
    refine lv_istore (lv' := [(5, .int 0), (0, .ref b), (1, .ref hT), (2, .ref hM), (3, .ref hX), (4, .int (nI i))]) hx hb dL_law_722 hl (by decide) rfl (fun ls hl => ?_)
    refine lv_aload_n hx hb dL_law_724 rfl (lv_at hl 3 rfl) ?_
    refine mi_V (b := hM) (As := []) (rest := []) (W2 := LX cI cZ cJ hT hB hV hG hX hM hO hW hY a tr g v (vp_updL ot 0 (a 1).toInt64) (kGm a) a o v mn) ⟨hx, hb, hml, hown, htL⟩ (c_X2_day l D cI cZ cJ _ hM hO hW hY th a) (cwV 0 htL gL_law_X2_day rfl rfl rfl (by decide +kernel) ⟨Nat.le_of_ble_eq_true rfl, Nat.le_of_ble_eq_true rfl⟩) hP hD hK hN hS hA (va_recv hK hP (ci := 2) (q0 := 5) rfl rfl) rfl hl.1 rfl (Nat.le_of_ble_eq_true rfl) dL_law_725 hf0 [5] [0, 1, 2, 3, 4, 6, 7, 8] rfl rfl rfl (by intro i9 h9; simp only [List.mem_cons, List.not_mem_nil, or_false] at h9; rcases h9 with rfl | rfl | rfl | rfl | rfl | rfl | rfl | rfl <;> rfl) rfl 9 rfl (by decide) (by decide) (fun H locs hP hD hS => ?_)
    exact law_tail G hcs ⟨by omega, by omega⟩ J dL_law_728 dL_law_730 dL_law_731 dL_law_734 dL_law_736 dL_law_741 dL_law_743 dL_law_746 dL_law_747 dL_law_748 dL_law_749 dL_law_751 dL_law_752 dL_law_753 dL_law_758 (by decide) hI hP hD hS hl ((iv_kGm hI).trans c0) (fun _ => by rw [← ha]; rfl)
  · skip
    refine mx_SW (As := [.ref hT, .ref hX]) (rest := []) ⟨hx, hb, hml, hown, htL⟩ (f_L_day l D cI cZ cJ _ hst hT hB hV a hX ot c0) (vx_cwSW 2 htL gL_law_L_day rfl rfl rfl (by decide +kernel) ⟨Nat.le_of_ble_eq_true rfl, Nat.le_of_ble_eq_true rfl⟩) hP hD hK hN hY9 hNX hS hA hZ rfl hl.1 rfl (Nat.le_of_ble_eq_true rfl) dL_law_719 hcs [0, 4] [1, 2, 3, 5, 6, 7, 8] rfl rfl 9 rfl (by decide) (by decide) (fun H locs hP hD hS => ?_)
    refine lv_istore (lv' := [(5, .int (kYg a)), (0, .ref b), (1, .ref hT), (2, .ref hM), (3, .ref hX), (4, .int (nI i))]) hx hb dL_law_722 hl (by decide) rfl (fun ls hl => ?_)
    refine lv_aload_n hx hb dL_law_724 rfl (lv_at hl 3 rfl) ?_
    refine mi_V (b := hM) (As := []) (rest := []) (W2 := LX cI cZ cJ hT hB hV hG hX hM hO hW hY a tr g v ot (kGm a') a' o v mn) ⟨hx, hb, hml, hown, htL⟩ (c_X2_day l D cI cZ cJ _ hM hO hW hY th a') (cwV 0 htL gL_law_X2_day rfl rfl rfl (by decide +kernel) ⟨Nat.le_of_ble_eq_true rfl, Nat.le_of_ble_eq_true rfl⟩) hP hD hK hN hS hA (va_recv hK hP (ci := 2) (q0 := 5) rfl rfl) rfl hl.1 rfl (Nat.le_of_ble_eq_true rfl) dL_law_725 hcs [5] [0, 1, 2, 3, 4, 6, 7, 8] rfl rfl rfl (by intro i9 h9; simp only [List.mem_cons, List.not_mem_nil, or_false] at h9; rcases h9 with rfl | rfl | rfl | rfl | rfl | rfl | rfl | rfl <;> rfl) rfl 9 rfl (by decide) (by decide) (fun H locs hP hD hS => ?_)
    exact law_tail G hcs ⟨by omega, by omega⟩ J dL_law_728 dL_law_730 dL_law_731 dL_law_734 dL_law_736 dL_law_741 dL_law_743 dL_law_746 dL_law_747 dL_law_748 dL_law_749 dL_law_751 dL_law_752 dL_law_753 dL_law_758 (by decide) hI hP hD hS hl (iv_kGm hI) (fun h9 => absurd h9 c0)

set_option maxHeartbeats 4000000 in
set_option maxRecDepth 100000 in
theorem arm_alive (G : LG p l s m args c D cI cZ cJ A b L xs) (hcs : cells + 1 ≤ 1046 ∧ slots + 6 ≤ 25831) (J : JN p l e s m args below meth c cells slots Q D cI cZ cJ A b hT hB hV hG hX hM hO hW hY i) (hi : i + 4 < L) (hI : Inv a a' g tr v o) (hP : va_P D vwCl (LX cI cZ cJ hT hB hV hG hX hM hO hW hY a tr g v ot th a' o v mn) H) (hD : va_D A (LX cI cZ cJ hT hB hV hG hX hM hO hW hY a tr g v ot th a' o v mn)) (hS : va_S A s.heap H locs) (hl : lv_has ls 7 [(0, .ref b), (1, .ref hT), (2, .ref hM), (3, .ref hX), (4, .int (nI i))]) : W p l e room_1 s m args below meth c H locs cells slots Q (F0 m 761 ls []) := by
  obtain ⟨hx, hb, hml, hown, htL, hK, hN, hY9, hNX, hst, hX9, hbl, hbA, hA, hZ, hL9⟩ := id G
  have hf0 : cells ≤ 1046 ∧ slots ≤ 25831 := by omega
  refine lv_aload_n hx hb dL_law_761 rfl (lv_at hl 1 rfl) ?_
  refine lv_aload_n hx hb dL_law_762 rfl (lv_at hl 3 rfl) ?_
  by_cases c0 : kYg a = 0
  · have n0 := kYg_ok c0
    obtain ⟨ea, hg⟩ := iv_on hI n0
    rw [ea] at hP hD hI
    have ha : a 6 = (if xGm a = true then a 6 else 0) := (if_pos (xGm_on n0)).symm
    refine mi_SW (As := [.ref hT, .ref hX]) (rest := []) (W2 := LX cI cZ cJ hT hB hV hG hX hM hO hW hY a tr g v (vp_updL ot 0 (a 6).toInt64) th a o v mn) ⟨hx, hb, hml, hown, htL⟩ (c_L_alive l D cI cZ cJ _ hT hB hV a hX ot n0) (vx_cwSW 2 htL gL_law_L_alive rfl rfl rfl (by decide +kernel) ⟨Nat.le_of_ble_eq_true rfl, Nat.le_of_ble_eq_true rfl⟩) hP hD hK hN hS hA rfl hl.1 rfl (Nat.le_of_ble_eq_true rfl) dL_law_763 hf0 [0, 4] [1, 2, 3, 5, 6, 7, 8] rfl rfl rfl (by intro i9 h9; simp only [List.mem_cons, List.not_mem_nil, or_false] at h9; rcases h9 with rfl | rfl | rfl | rfl | rfl | rfl | rfl <;> rfl) rfl 9 rfl (by decide) (by decide) (fun H locs hP hD hS => ?_)
    refine lv_istore (lv' := [(5, .int 0), (0, .ref b), (1, .ref hT), (2, .ref hM), (3, .ref hX), (4, .int (nI i))]) hx hb dL_law_766 hl (by decide) rfl (fun ls hl => ?_)
    refine lv_aload_n hx hb dL_law_768 rfl (lv_at hl 3 rfl) ?_
    refine mi_V (b := hM) (As := []) (rest := []) (W2 := LX cI cZ cJ hT hB hV hG hX hM hO hW hY a tr g v (vp_updL ot 0 (a 6).toInt64) (kGm a) a o v mn) ⟨hx, hb, hml, hown, htL⟩ (c_X2_alive l D cI cZ cJ _ hM hO hW hY th a) (cwV 0 htL gL_law_X2_alive rfl rfl rfl (by decide +kernel) ⟨Nat.le_of_ble_eq_true rfl, Nat.le_of_ble_eq_true rfl⟩) hP hD hK hN hS hA (va_recv hK hP (ci := 2) (q0 := 5) rfl rfl) rfl hl.1 rfl (Nat.le_of_ble_eq_true rfl) dL_law_769 hf0 [5] [0, 1, 2, 3, 4, 6, 7, 8] rfl rfl rfl (by intro i9 h9; simp only [List.mem_cons, List.not_mem_nil, or_false] at h9; rcases h9 with rfl | rfl | rfl | rfl | rfl | rfl | rfl | rfl <;> rfl) rfl 9 rfl (by decide) (by decide) (fun H locs hP hD hS => ?_)
    exact law_tail G hcs ⟨by omega, by omega⟩ J dL_law_772 dL_law_774 dL_law_775 dL_law_778 dL_law_780 dL_law_785 dL_law_787 dL_law_790 dL_law_791 dL_law_792 dL_law_793 dL_law_795 dL_law_796 dL_law_797 dL_law_802 (by decide) hI hP hD hS hl ((iv_kGm hI).trans c0) (fun _ => by rw [← ha]; rfl)
  · skip
    refine mx_SW (As := [.ref hT, .ref hX]) (rest := []) ⟨hx, hb, hml, hown, htL⟩ (f_L_alive l D cI cZ cJ _ hst hT hB hV a hX ot c0) (vx_cwSW 2 htL gL_law_L_alive rfl rfl rfl (by decide +kernel) ⟨Nat.le_of_ble_eq_true rfl, Nat.le_of_ble_eq_true rfl⟩) hP hD hK hN hY9 hNX hS hA hZ rfl hl.1 rfl (Nat.le_of_ble_eq_true rfl) dL_law_763 hcs [0, 4] [1, 2, 3, 5, 6, 7, 8] rfl rfl 9 rfl (by decide) (by decide) (fun H locs hP hD hS => ?_)
    refine lv_istore (lv' := [(5, .int (kYg a)), (0, .ref b), (1, .ref hT), (2, .ref hM), (3, .ref hX), (4, .int (nI i))]) hx hb dL_law_766 hl (by decide) rfl (fun ls hl => ?_)
    refine lv_aload_n hx hb dL_law_768 rfl (lv_at hl 3 rfl) ?_
    refine mi_V (b := hM) (As := []) (rest := []) (W2 := LX cI cZ cJ hT hB hV hG hX hM hO hW hY a tr g v ot (kGm a') a' o v mn) ⟨hx, hb, hml, hown, htL⟩ (c_X2_alive l D cI cZ cJ _ hM hO hW hY th a') (cwV 0 htL gL_law_X2_alive rfl rfl rfl (by decide +kernel) ⟨Nat.le_of_ble_eq_true rfl, Nat.le_of_ble_eq_true rfl⟩) hP hD hK hN hS hA (va_recv hK hP (ci := 2) (q0 := 5) rfl rfl) rfl hl.1 rfl (Nat.le_of_ble_eq_true rfl) dL_law_769 hcs [5] [0, 1, 2, 3, 4, 6, 7, 8] rfl rfl rfl (by intro i9 h9; simp only [List.mem_cons, List.not_mem_nil, or_false] at h9; rcases h9 with rfl | rfl | rfl | rfl | rfl | rfl | rfl | rfl <;> rfl) rfl 9 rfl (by decide) (by decide) (fun H locs hP hD hS => ?_)
    exact law_tail G hcs ⟨by omega, by omega⟩ J dL_law_772 dL_law_774 dL_law_775 dL_law_778 dL_law_780 dL_law_785 dL_law_787 dL_law_790 dL_law_791 dL_law_792 dL_law_793 dL_law_795 dL_law_796 dL_law_797 dL_law_802 (by decide) hI hP hD hS hl (iv_kGm hI) (fun h9 => absurd h9 c0)
end LawArms
