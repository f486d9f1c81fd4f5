def v04 (z : Int32) : Prop := z = 0 ∨ z = 1 ∨ z = 2 ∨ z = 3 ∨ z = 4
def v03 (z : Int32) : Prop := z = 0 ∨ z = 1 ∨ z = 2 ∨ z = 3
def v02 (z : Int32) : Prop := z = 0 ∨ z = 1 ∨ z = 2
def v01 (z : Int32) : Prop := z = 0 ∨ z = 1
def v0t (z : Int32) : Prop := z = 0 ∨ z = 3
theorem iteIn {c : Prop} [Decidable c] {x y : Int32} {S : Int32 → Prop} (hx : S x) (hy : S y) : S (if c then x else y) := by
  split
  · exact hx
  · exact hy
theorem kYs_in (z0 : Int32) (z1 : Int32) (z2 : Int32) (z3 : Int32) : v0t (kYs z0 z1 z2 z3) := by
  unfold kYs
  repeat' apply iteIn
  all_goals (unfold v0t; decide)
theorem kYc_in (a : Nat → Int32) (z1 : Int32) (z2 : Int32) (z3 : Int32) (z4 : Int32) : v04 (kYc a z1 z2 z3 z4) := by
  unfold kYc
  repeat' apply iteIn
  all_goals (unfold v04; decide)
theorem kYa_in (a : Nat → Int32) (z1 : Int32) (z2 : Int32) (z3 : Int32) : v04 (kYa a z1 z2 z3) := by
  unfold kYa
  repeat' apply iteIn
  all_goals (unfold v04; decide)
theorem kYv_in (a : Nat → Int32) (z1 : Int32) (z2 : Int32) : v03 (kYv a z1 z2) := by
  unfold kYv
  repeat' apply iteIn
  all_goals (unfold v03; decide)
theorem kYh_in (a : Nat → Int32) (z1 : Int32) : v01 (kYh a z1) := by
  unfold kYh
  repeat' apply iteIn
  all_goals (unfold v01; decide)
theorem kYp_in (a : Nat → Int32) (z1 : Int32) : v03 (kYp a z1) := by
  unfold kYp
  repeat' apply iteIn
  all_goals (unfold v03; decide)
theorem kYt_in (a : Nat → Int32) (z1 : Int32) : v03 (kYt a z1) := by
  unfold kYt
  repeat' apply iteIn
  all_goals (unfold v03; decide)
theorem kYl_in (a : Nat → Int32) (z1 : Int32) : v03 (kYl a z1) := by
  unfold kYl
  repeat' apply iteIn
  all_goals (unfold v03; decide)
theorem kYg_in (a : Nat → Int32) : v01 (kYg a) := by
  unfold kYg
  repeat' apply iteIn
  all_goals (unfold v01; decide)
theorem kYo_in (a : Nat → Int32) (z1 : Int32) : v02 (kYo a z1) := by
  unfold kYo
  repeat' apply iteIn
  all_goals (unfold v02; decide)
theorem kYw_in (a : Nat → Int32) (z1 : Int32) : v02 (kYw a z1) := by
  unfold kYw
  repeat' apply iteIn
  all_goals (unfold v02; decide)
theorem kYx_in (a : Nat → Int32) (z1 : Int32) (z2 : Int32) (z3 : Int32) : v03 (kYx a z1 z2 z3) := by
  unfold kYx
  repeat' apply iteIn
  all_goals (unfold v03; decide)
theorem kYi_in (a : Nat → Int32) (z1 : Int32) (z2 : Int32) (z3 : Int32) : v02 (kYi a z1 z2 z3) := by
  unfold kYi
  repeat' apply iteIn
  all_goals (unfold v02; decide)
theorem in_L_start_X0 : ∀ w ∈ wsX00, w ∈ wsL_start := by decide +kernel
theorem in_L_start_X1 : ∀ w ∈ wsX10, w ∈ wsL_start := by decide +kernel
set_option maxHeartbeats 2000000 in
set_option maxRecDepth 100000 in
theorem c_L_start (l : Launch) (D : va_G) (cI cZ cJ : ClassId) (sz : Nat) (hT : Nat) (hB : Nat) (hV : Nat) (a : Nat → Int32) (hG : Nat) (tr : Int32) (g : Nat → Int32) (v : Nat → Int32) (hX : Nat) (ot : Nat → Int64) (n : Nat) (W : Nat) (x : Nat) (y : Nat) (P : Nat → Bool) (hn8 : n ≤ 8) (hP9 : ∀ W9 x9 y9, W9 < 2 ^ n → x9 < n → y9 < n → yPop (nI W9) = yPop ((yWo (nI W) (nI x) (nI y)) &&& 255) → P (64 * W9 + (8 * x9 + y9)) = (!decide (nI x9 = nI y9) && yHo (nI n) (nI W9) (nI x9) && yHo (nI n) (nI W9) (nI y9))) (hF9 : ∀ W9 x9 y9, W9 < 256 → x9 < 8 → y9 < 8 → (W9 = 0 ∨ 2 ^ n ≤ W9 ∨ ¬ yPop (nI W9) = yPop ((yWo (nI W) (nI x) (nI y)) &&& 255) ∨ n ≤ x9 ∨ n ≤ y9) → P (64 * W9 + (8 * x9 + y9)) = false) (hB9 : nCt P 16384 ≤ 1120) (hg0 : ∀ j, 1120 ≤ j → g j = 0) (hE9 : ∀ b, P b = true → ¬ yEnc b = 0) (h1 : yGood (nI n) (nI W) (nI x) (nI y) = true) : Mi l D cI cZ cJ yL_start wsL_start 5 118 sz [.ref hT, .int (nI n), .int (nI W), .int (nI x), .int (nI y), .ref hX] [cT hT hB hV a, cB hB hG tr, cA cI hG 1120 g, cA cI hV 8 v, cL cJ hX 1 ot] [cT hT hB hV (aYs a (nI n) (nI W) (nI x) (nI y)), cB hB hG (yWo (nI W) (nI x) (nI y)), cA cI hG 1120 (pgF P 16384), cA cI hV 8 (iUp vM v 8), cL cJ hX 1 (vp_updL ot 0 (xCnt (pAg (pgF P 16384) (yWo (nI W) (nI x) (nI y)) (yKn (aYs a (nI n) (nI W) (nI x) (nI y)) (-1))) (nCt P 16384)).toInt64)] (0) := by
  refine mi_ofH (by decide) rfl (Nat.le_of_ble_eq_true rfl) (fun p e s m below meth c ls A hx hb hr hml hts hown hlocks hP hK hN hD hA hS hl => ?_)
  have hl : lv_has ls 7 [(0, .ref hT), (1, .int (nI n)), (2, .int (nI W)), (3, .int (nI x)), (4, .int (nI y)), (5, .ref hX)] := hl
  refine lv_aload hx hb dL_start_0 (lv_at hl 5 rfl) ?_
  refine lv_iconst (v := 0) hx hb dL_start_2 (by decide) ?_
  refine lv_aload_n hx hb dL_start_3 rfl (lv_at hl 0 rfl) ?_
  refine lv_iload_n hx hb dL_start_4 rfl (lv_at hl 1 rfl) ?_
  refine lv_iload_n hx hb dL_start_5 rfl (lv_at hl 2 rfl) ?_
  refine lv_iload_n hx hb dL_start_6 rfl (lv_at hl 3 rfl) ?_
  refine lv_iload hx hb dL_start_7 (lv_at hl 4 rfl) ?_
  refine mi_V (b := hT) (As := [.int (nI n), .int (nI W), .int (nI x), .int (nI y)]) (rest := [.int 0, .ref hX]) (W2 := [cT hT hB hV (aYs a (nI n) (nI W) (nI x) (nI y)), cB hB hG (yWo (nI W) (nI x) (nI y)), cA cI hG 1120 (pgF P 16384), cA cI hV 8 (iUp vM v 8), cL cJ hX 1 ot]) ⟨hx, hb, hml, hown, hts⟩ (c_X1_start l D cI cZ cJ _ hT hB hV a hG tr g v n W x y P hn8 hP9 hF9 hB9 hg0 hE9 h1) (cwV 4 hts gL_start_X1_start rfl rfl rfl (by decide +kernel) ⟨Nat.le_of_ble_eq_true rfl, Nat.le_of_ble_eq_true rfl⟩) hP hD hK hN hS hA (va_recv hK hP (ci := 1) (q0 := 0) rfl rfl) rfl hl.1 rfl (Nat.le_of_ble_eq_true rfl) dL_start_9 ⟨Nat.le_of_ble_eq_true rfl, Nat.le_of_ble_eq_true rfl⟩ [0, 1, 2, 3] [4] rfl rfl rfl (by intro i hi; simp only [List.mem_cons, List.not_mem_nil, or_false] at hi; rcases hi with rfl <;> rfl) rfl 5 rfl (by decide) (by decide) (fun H locs hP hD hS => ?_)
  refine lv_i2l (v := ((xCnt (pAg (pgF P 16384) (yWo (nI W) (nI x) (nI y)) (yKn (aYs a (nI n) (nI W) (nI x) (nI y)) (-1))) (nCt P 16384))).toInt64) hx hb dL_start_12 rfl ?_
  refine q_last (D := D) hx hb hK hP hD hS 4 2 rfl rfl dL_start_13 (fun H locs hP hD hS => ?_)
  have hP : va_P D vwCl [cT hT hB hV (aYs a (nI n) (nI W) (nI x) (nI y)), cB hB hG (yWo (nI W) (nI x) (nI y)), cA cI hG 1120 (pgF P 16384), cA cI hV 8 (iUp vM v 8), cL cJ hX 1 (vp_updL ot 0 (((xCnt (pAg (pgF P 16384) (yWo (nI W) (nI x) (nI y)) (yKn (aYs a (nI n) (nI W) (nI x) (nI y)) (-1))) (nCt P 16384))).toInt64))] H := hP
  have hD : va_D A [cT hT hB hV (aYs a (nI n) (nI W) (nI x) (nI y)), cB hB hG (yWo (nI W) (nI x) (nI y)), cA cI hG 1120 (pgF P 16384), cA cI hV 8 (iUp vM v 8), cL cJ hX 1 (vp_updL ot 0 (((xCnt (pAg (pgF P 16384) (yWo (nI W) (nI x) (nI y)) (yKn (aYs a (nI n) (nI W) (nI x) (nI y)) (-1))) (nCt P 16384))).toInt64))] := hD
  refine lv_goto (tgt := 21) hx hb dL_start_14 (by decide) ?_
  refine lv_iconst (v := 0) hx hb dL_start_21 (by decide) ?_
  have hP9 : va_P D vwCl [cT hT hB hV (aYs a (nI n) (nI W) (nI x) (nI y)), cB hB hG (yWo (nI W) (nI x) (nI y)), cA cI hG 1120 (pgF P 16384), cA cI hV 8 (iUp vM v 8), cL cJ hX 1 (vp_updL ot 0 (xCnt (pAg (pgF P 16384) (yWo (nI W) (nI x) (nI y)) (yKn (aYs a (nI n) (nI W) (nI x) (nI y)) (-1))) (nCt P 16384)).toInt64)] H := by
    have e9_0 : (vp_updL ot 0 (xCnt (pAg (pgF P 16384) (yWo (nI W) (nI x) (nI y)) (yKn (aYs a (nI n) (nI W) (nI x) (nI y)) (-1))) (nCt P 16384)).toInt64) = (vp_updL ot 0 (((xCnt (pAg (pgF P 16384) (yWo (nI W) (nI x) (nI y)) (yKn (aYs a (nI n) (nI W) (nI x) (nI y)) (-1))) (nCt P 16384))).toInt64)) := by (first | rfl | (simp only [bI]; rfl))
    rw [e9_0]
    exact hP
  exact mi_iret hx hb hr hlocks hS (by rfl) hP9 dL_start_22

set_option maxHeartbeats 2000000 in
set_option maxRecDepth 100000 in
theorem f_L_start (l : Launch) (D : va_G) (cI cZ cJ : ClassId) (sz : Nat) (hst : l.stackTraces = false) (hT : Nat) (hB : Nat) (hV : Nat) (a : Nat → Int32) (hX : Nat) (ot : Nat → Int64) (pl : Int32) (wi : Int32) (se : Int32) (gu : Int32) (hk : ¬ kYs pl wi se gu = 0) : Mx l D cI cZ cJ yL_start wsL_start 7 114 sz [.ref hT, .int pl, .int wi, .int se, .int gu, .ref hX] [cT hT hB hV a, cL cJ hX 1 ot] (1) := by
  refine mx_ofH (by decide) rfl (Nat.le_of_ble_eq_true rfl) (fun p e s m below meth c ls A hx hb hr hml hts hown hlocks htab hP hK hN hD hA hS hZ hY hXn hl => ?_)
  have hl : lv_has ls 7 [(0, .ref hT), (1, .int pl), (2, .int wi), (3, .int se), (4, .int gu), (5, .ref hX)] := hl
  refine lv_aload hx hb dL_start_0 (lv_at hl 5 rfl) ?_
  refine lv_iconst (v := 0) hx hb dL_start_2 (by decide) ?_
  refine lv_aload_n hx hb dL_start_3 rfl (lv_at hl 0 rfl) ?_
  refine lv_iload_n hx hb dL_start_4 rfl (lv_at hl 1 rfl) ?_
  refine lv_iload_n hx hb dL_start_5 rfl (lv_at hl 2 rfl) ?_
  refine lv_iload_n hx hb dL_start_6 rfl (lv_at hl 3 rfl) ?_
  refine lv_iload hx hb dL_start_7 (lv_at hl 4 rfl) ?_
  refine xc_V (b := hT) (As := [.int pl, .int wi, .int se, .int gu]) (rest := [.int 0, .ref hX]) ⟨hx, hb, hml, hown, hts⟩ (t_X1_start l D cI cZ cJ _ hst hT hB hV a pl wi se gu hk) (cwV 4 hts gL_start_X1_start rfl rfl rfl (by decide +kernel) ⟨Nat.le_of_ble_eq_true rfl, Nat.le_of_ble_eq_true rfl⟩) hP hD hK hN hY hS hA hZ (va_recv hK hP (ci := 1) (q0 := 0) rfl rfl) rfl hl.1 rfl (Nat.le_of_ble_eq_true rfl) dL_start_9 ⟨Nat.le_of_ble_eq_true rfl, Nat.le_of_ble_eq_true rfl⟩ [0] [1] rfl rfl 2 rfl (by decide) (by decide) (fun H locs qe ce hP hD hS hq1 hq2 hq3 => ?_)
  have hv9 : kYs pl wi se gu = 0 ∨ kYs pl wi se gu = 3 := kYs_in _ _ _ _
  rcases hv9 with h9 | h9
  · exact absurd h9 hk
  · rw [h9] at hq3
    refine vx_catch (E := "java/lang/IllegalArgumentException") (name := "java/lang/IllegalArgumentException") hown [] ⟨0, 14, 17, 13⟩ [] htab (fun _ h => nomatch h) (by decide) (by decide) (hts (.classLink RL 13 "java/lang/IllegalArgumentException") (List.mem_of_getElem? (i := 1) rfl)) (va_Nw.use rfl (hN.2.2 _ (List.mem_of_getElem? (i := 2) rfl))) hq1 hq2 hq3 ?_
    refine lv_astore (lv' := [(6, .ref qe), (0, .ref hT), (1, .int pl), (2, .int wi), (3, .int se), (4, .int gu), (5, .ref hX)]) hx hb dL_start_17 hl (by decide) rfl (fun ls hl => ?_)
    refine lv_iconst (v := 1) hx hb dL_start_19 (by decide) ?_
    exact mx_iret hx hb hr hlocks hS rfl hP dL_start_20

theorem in_L_claim_X0 : ∀ w ∈ wsX00, w ∈ wsL_claim := by decide +kernel
theorem in_L_claim_X1 : ∀ w ∈ wsX10, w ∈ wsL_claim := by decide +kernel
set_option maxHeartbeats 2000000 in
set_option maxRecDepth 100000 in
theorem c_L_claim (l : Launch) (D : va_G) (cI cZ cJ : ClassId) (sz : Nat) (hT : Nat) (hB : Nat) (hV : Nat) (a : Nat → Int32) (hG : Nat) (tr : Int32) (g : Nat → Int32) (hX : Nat) (ot : Nat → Int64) (q : Int32) (k : Int32) (r : Int32) (K : Nat) (hK9 : K ≤ 1120) (hg : ∀ j, j < K → ¬ g j = 0) (hz : K < 1120 → g K = 0) (h1 : ¬ a 0 = 0) (h2 : yPl a q = true) (h3 : yPl a r = true) (h4 : ¬ k < 0) (h5 : k ≤ 3) (m1 : a 0 = 1) (m2 : yIn (a 6) q = true) (m3 : yAg tr q (yCb k r) (!decide (k = 1)) = true) : Mi l D cI cZ cJ yL_claim wsL_claim 5 115 sz [.ref hT, .int q, .int k, .int r, .ref hX] [cT hT hB hV a, cB hB hG tr, cA cI hG 1120 g, cL cJ hX 1 ot] [cT hT hB hV a, cB hB hG tr, cA cI hG 1120 (kcF (pAc q (yCb k r) (!decide (k = 1))) g K), cL cJ hX 1 (vp_updL ot 0 (xCnt (pAg (kcF (pAc q (yCb k r) (!decide (k = 1))) g K) tr (yKn a (-1))) (nCt (kcP (pAc q (yCb k r) (!decide (k = 1))) g) K)).toInt64)] (0) := by
  refine mi_ofH (by decide) rfl (Nat.le_of_ble_eq_true rfl) (fun p e s m below meth c ls A hx hb hr hml hts hown hlocks hP hK hN hD hA hS hl => ?_)
  have hl : lv_has ls 6 [(0, .ref hT), (1, .int q), (2, .int k), (3, .int r), (4, .ref hX)] := hl
  refine lv_aload hx hb dL_claim_0 (lv_at hl 4 rfl) ?_
  refine lv_iconst (v := 0) hx hb dL_claim_2 (by decide) ?_
  refine lv_aload_n hx hb dL_claim_3 rfl (lv_at hl 0 rfl) ?_
  refine lv_iload_n hx hb dL_claim_4 rfl (lv_at hl 1 rfl) ?_
  refine lv_iload_n hx hb dL_claim_5 rfl (lv_at hl 2 rfl) ?_
  refine lv_iload_n hx hb dL_claim_6 rfl (lv_at hl 3 rfl) ?_
  refine mi_V (b := hT) (As := [.int q, .int k, .int r]) (rest := [.int 0, .ref hX]) (W2 := [cT hT hB hV a, cB hB hG tr, cA cI hG 1120 (kcF (pAc q (yCb k r) (!decide (k = 1))) g K), cL cJ hX 1 ot]) ⟨hx, hb, hml, hown, hts⟩ (c_X1_claim l D cI cZ cJ _ hT hB hV a hG tr g q k r K hK9 hg hz h1 h2 h3 h4 h5 m1 m2 m3) (cwV 3 hts gL_claim_X1_claim rfl rfl rfl (by decide +kernel) ⟨Nat.le_of_ble_eq_true rfl, Nat.le_of_ble_eq_true rfl⟩) hP hD hK hN hS hA (va_recv hK hP (ci := 1) (q0 := 0) rfl rfl) rfl hl.1 rfl (Nat.le_of_ble_eq_true rfl) dL_claim_7 ⟨Nat.le_of_ble_eq_true rfl, Nat.le_of_ble_eq_true rfl⟩ [0, 1, 2] [3] rfl rfl rfl (by intro i hi; simp only [List.mem_cons, List.not_mem_nil, or_false] at hi; rcases hi with rfl <;> rfl) rfl 4 rfl (by decide) (by decide) (fun H locs hP hD hS => ?_)
  refine lv_i2l (v := ((xCnt (pAg (kcF (pAc q (yCb k r) (!decide (k = 1))) g K) tr (yKn a (-1))) (nCt (kcP (pAc q (yCb k r) (!decide (k = 1))) g) K))).toInt64) hx hb dL_claim_10 rfl ?_
  refine q_last (D := D) hx hb hK hP hD hS 3 2 rfl rfl dL_claim_11 (fun H locs hP hD hS => ?_)
  have hP : va_P D vwCl [cT hT hB hV a, cB hB hG tr, cA cI hG 1120 (kcF (pAc q (yCb k r) (!decide (k = 1))) g K), cL cJ hX 1 (vp_updL ot 0 (((xCnt (pAg (kcF (pAc q (yCb k r) (!decide (k = 1))) g K) tr (yKn a (-1))) (nCt (kcP (pAc q (yCb k r) (!decide (k = 1))) g) K))).toInt64))] H := hP
  have hD : va_D A [cT hT hB hV a, cB hB hG tr, cA cI hG 1120 (kcF (pAc q (yCb k r) (!decide (k = 1))) g K), cL cJ hX 1 (vp_updL ot 0 (((xCnt (pAg (kcF (pAc q (yCb k r) (!decide (k = 1))) g K) tr (yKn a (-1))) (nCt (kcP (pAc q (yCb k r) (!decide (k = 1))) g) K))).toInt64))] := hD
  refine lv_goto (tgt := 31) hx hb dL_claim_12 (by decide) ?_
  refine lv_iconst (v := 0) hx hb dL_claim_31 (by decide) ?_
  have hP9 : va_P D vwCl [cT hT hB hV a, cB hB hG tr, cA cI hG 1120 (kcF (pAc q (yCb k r) (!decide (k = 1))) g K), cL cJ hX 1 (vp_updL ot 0 (xCnt (pAg (kcF (pAc q (yCb k r) (!decide (k = 1))) g K) tr (yKn a (-1))) (nCt (kcP (pAc q (yCb k r) (!decide (k = 1))) g) K)).toInt64)] H := by
    have e9_0 : (vp_updL ot 0 (xCnt (pAg (kcF (pAc q (yCb k r) (!decide (k = 1))) g K) tr (yKn a (-1))) (nCt (kcP (pAc q (yCb k r) (!decide (k = 1))) g) K)).toInt64) = (vp_updL ot 0 (((xCnt (pAg (kcF (pAc q (yCb k r) (!decide (k = 1))) g K) tr (yKn a (-1))) (nCt (kcP (pAc q (yCb k r) (!decide (k = 1))) g) K))).toInt64)) := by (first | rfl | (simp only [bI]; rfl))
    rw [e9_0]
    exact hP
  exact mi_iret hx hb hr hlocks hS (by rfl) hP9 dL_claim_32

set_option maxHeartbeats 2000000 in
set_option maxRecDepth 100000 in
theorem f_L_claim (l : Launch) (D : va_G) (cI cZ cJ : ClassId) (sz : Nat) (hst : l.stackTraces = false) (hT : Nat) (hB : Nat) (hV : Nat) (a : Nat → Int32) (hG : Nat) (tr : Int32) (hX : Nat) (ot : Nat → Int64) (q : Int32) (k : Int32) (r : Int32) (hk : ¬ kYc a tr q k r = 0) : Mx l D cI cZ cJ yL_claim wsL_claim 8 136 sz [.ref hT, .int q, .int k, .int r, .ref hX] [cT hT hB hV a, cB hB hG tr, cL cJ hX 1 ot] (kYc a tr q k r) := by
  refine mx_ofH (by decide) rfl (Nat.le_of_ble_eq_true rfl) (fun p e s m below meth c ls A hx hb hr hml hts hown hlocks htab hP hK hN hD hA hS hZ hY hXn hl => ?_)
  have hl : lv_has ls 6 [(0, .ref hT), (1, .int q), (2, .int k), (3, .int r), (4, .ref hX)] := hl
  refine lv_aload hx hb dL_claim_0 (lv_at hl 4 rfl) ?_
  refine lv_iconst (v := 0) hx hb dL_claim_2 (by decide) ?_
  refine lv_aload_n hx hb dL_claim_3 rfl (lv_at hl 0 rfl) ?_
  refine lv_iload_n hx hb dL_claim_4 rfl (lv_at hl 1 rfl) ?_
  refine lv_iload_n hx hb dL_claim_5 rfl (lv_at hl 2 rfl) ?_
  refine lv_iload_n hx hb dL_claim_6 rfl (lv_at hl 3 rfl) ?_
  refine xc_V (b := hT) (As := [.int q, .int k, .int r]) (rest := [.int 0, .ref hX]) ⟨hx, hb, hml, hown, hts⟩ (t_X1_claim l D cI cZ cJ _ hst hT hB hV a hG tr q k r hk) (cwV 3 hts gL_claim_X1_claim rfl rfl rfl (by decide +kernel) ⟨Nat.le_of_ble_eq_true rfl, Nat.le_of_ble_eq_true rfl⟩) hP hD hK hN hY hS hA hZ (va_recv hK hP (ci := 1) (q0 := 0) rfl rfl) rfl hl.1 rfl (Nat.le_of_ble_eq_true rfl) dL_claim_7 ⟨Nat.le_of_ble_eq_true rfl, Nat.le_of_ble_eq_true rfl⟩ [0, 1] [2] rfl rfl 3 rfl (by decide) (by decide) (fun H locs qe ce hP hD hS hq1 hq2 hq3 => ?_)
  have hv9 : kYc a tr q k r = 0 ∨ kYc a tr q k r = 1 ∨ kYc a tr q k r = 2 ∨ kYc a tr q k r = 3 ∨ kYc a tr q k r = 4 := kYc_in _ _ _ _ _
  rcases hv9 with h9 | h9 | h9 | h9 | h9
  · exact absurd h9 hk
  · rw [h9] at hq3
    refine vx_catch (E := "java/lang/IllegalStateException") (name := "java/lang/IllegalStateException") hown [] ⟨0, 12, 15, 19⟩ [⟨0, 12, 19, 21⟩, ⟨0, 12, 23, 13⟩, ⟨0, 12, 27, 23⟩] htab (fun _ h => nomatch h) (by decide) (by decide) (hts (.classLink RL 19 "java/lang/IllegalStateException") (List.mem_of_getElem? (i := 1) rfl)) (va_Nw.use rfl (hN.2.2 _ (List.mem_of_getElem? (i := 0) rfl))) hq1 hq2 hq3 ?_
    refine lv_astore (lv' := [(5, .ref qe), (0, .ref hT), (1, .int q), (2, .int k), (3, .int r), (4, .ref hX)]) hx hb dL_claim_15 hl (by decide) rfl (fun ls hl => ?_)
    refine lv_iconst (v := 1) hx hb dL_claim_17 (by decide) ?_
    exact mx_iret hx hb hr hlocks hS h9.symm hP dL_claim_18
  · rw [h9] at hq3
    refine vx_catch (E := "java/lang/IndexOutOfBoundsException") (name := "java/lang/IndexOutOfBoundsException") hown [⟨0, 12, 15, 19⟩] ⟨0, 12, 19, 21⟩ [⟨0, 12, 23, 13⟩, ⟨0, 12, 27, 23⟩] htab (List.forall_mem_cons.mpr ⟨Or.inr ⟨by decide, "java/lang/IllegalStateException", (hts (.classLink RL 19 "java/lang/IllegalStateException") (List.mem_of_getElem? (i := 1) rfl)), hXn.at 3 rfl⟩, (fun _ h => nomatch h)⟩) (by decide) (by decide) (hts (.classLink RL 21 "java/lang/IndexOutOfBoundsException") (List.mem_of_getElem? (i := 2) rfl)) (va_Nw.use rfl (hN.2.2 _ (List.mem_of_getElem? (i := 1) rfl))) hq1 hq2 hq3 ?_
    refine lv_astore (lv' := [(5, .ref qe), (0, .ref hT), (1, .int q), (2, .int k), (3, .int r), (4, .ref hX)]) hx hb dL_claim_19 hl (by decide) rfl (fun ls hl => ?_)
    refine lv_iconst (v := 2) hx hb dL_claim_21 (by decide) ?_
    exact mx_iret hx hb hr hlocks hS h9.symm hP dL_claim_22
  · rw [h9] at hq3
    refine vx_catch (E := "java/lang/IllegalArgumentException") (name := "java/lang/IllegalArgumentException") hown [⟨0, 12, 15, 19⟩, ⟨0, 12, 19, 21⟩] ⟨0, 12, 23, 13⟩ [⟨0, 12, 27, 23⟩] htab (List.forall_mem_cons.mpr ⟨Or.inr ⟨by decide, "java/lang/IllegalStateException", (hts (.classLink RL 19 "java/lang/IllegalStateException") (List.mem_of_getElem? (i := 1) rfl)), hXn.at 6 rfl⟩, (List.forall_mem_cons.mpr ⟨Or.inr ⟨by decide, "java/lang/IndexOutOfBoundsException", (hts (.classLink RL 21 "java/lang/IndexOutOfBoundsException") (List.mem_of_getElem? (i := 2) rfl)), hXn.at 7 rfl⟩, (fun _ h => nomatch h)⟩)⟩) (by decide) (by decide) (hts (.classLink RL 13 "java/lang/IllegalArgumentException") (List.mem_of_getElem? (i := 3) rfl)) (va_Nw.use rfl (hN.2.2 _ (List.mem_of_getElem? (i := 2) rfl))) hq1 hq2 hq3 ?_
    refine lv_astore (lv' := [(5, .ref qe), (0, .ref hT), (1, .int q), (2, .int k), (3, .int r), (4, .ref hX)]) hx hb dL_claim_23 hl (by decide) rfl (fun ls hl => ?_)
    refine lv_iconst (v := 3) hx hb dL_claim_25 (by decide) ?_
    exact mx_iret hx hb hr hlocks hS h9.symm hP dL_claim_26
  · rw [h9] at hq3
    refine vx_catch (E := "java/util/NoSuchElementException") (name := "java/util/NoSuchElementException") hown [⟨0, 12, 15, 19⟩, ⟨0, 12, 19, 21⟩, ⟨0, 12, 23, 13⟩] ⟨0, 12, 27, 23⟩ [] htab (List.forall_mem_cons.mpr ⟨Or.inr ⟨by decide, "java/lang/IllegalStateException", (hts (.classLink RL 19 "java/lang/IllegalStateException") (List.mem_of_getElem? (i := 1) rfl)), hXn.at 9 rfl⟩, (List.forall_mem_cons.mpr ⟨Or.inr ⟨by decide, "java/lang/IndexOutOfBoundsException", (hts (.classLink RL 21 "java/lang/IndexOutOfBoundsException") (List.mem_of_getElem? (i := 2) rfl)), hXn.at 10 rfl⟩, (List.forall_mem_cons.mpr ⟨Or.inr ⟨by decide, "java/lang/IllegalArgumentException", (hts (.classLink RL 13 "java/lang/IllegalArgumentException") (List.mem_of_getElem? (i := 3) rfl)), hXn.at 11 rfl⟩, (fun _ h => nomatch h)⟩)⟩)⟩) (by decide) (by decide) (hts (.classLink RL 23 "java/util/NoSuchElementException") (List.mem_of_getElem? (i := 4) rfl)) (va_Nw.use rfl (hN.2.2 _ (List.mem_of_getElem? (i := 3) rfl))) hq1 hq2 hq3 ?_
    refine lv_astore (lv' := [(5, .ref qe), (0, .ref hT), (1, .int q), (2, .int k), (3, .int r), (4, .ref hX)]) hx hb dL_claim_27 hl (by decide) rfl (fun ls hl => ?_)
    refine lv_iconst (v := 4) hx hb dL_claim_29 (by decide) ?_
    exact mx_iret hx hb hr hlocks hS h9.symm hP dL_claim_30

theorem in_L_claimAmong_X0 : ∀ w ∈ wsX00, w ∈ wsL_claimAmong := by decide +kernel
theorem in_L_claimAmong_X1 : ∀ w ∈ wsX10, w ∈ wsL_claimAmong := by decide +kernel
set_option maxHeartbeats 2000000 in
set_option maxRecDepth 100000 in
theorem c_L_claimAmong (l : Launch) (D : va_G) (cI cZ cJ : ClassId) (sz : Nat) (hT : Nat) (hB : Nat) (hV : Nat) (a : Nat → Int32) (hG : Nat) (tr : Int32) (g : Nat → Int32) (hX : Nat) (ot : Nat → Int64) (q : Int32) (st : Int32) (K : Nat) (hK9 : K ≤ 1120) (hg : ∀ j, j < K → ¬ g j = 0) (hz : K < 1120 → g K = 0) (h1 : ¬ a 0 = 0) (h2 : yPl a q = true) (h4 : st &&& (xAll (a 2) ^^^ (-1)) = 0) (m1 : a 0 = 1) (m2 : yIn (a 6) q = true) (m3 : yAg tr q st true = true) : Mi l D cI cZ cJ yL_claimAmong wsL_claimAmong 5 114 sz [.ref hT, .int q, .int st, .ref hX] [cT hT hB hV a, cB hB hG tr, cA cI hG 1120 g, cL cJ hX 1 ot] [cT hT hB hV a, cB hB hG tr, cA cI hG 1120 (kcF (pAc q st true) g K), cL cJ hX 1 (vp_updL ot 0 (xCnt (pAg (kcF (pAc q st true) g K) tr (yKn a (-1))) (nCt (kcP (pAc q st true) g) K)).toInt64)] (0) := by
  refine mi_ofH (by decide) rfl (Nat.le_of_ble_eq_true rfl) (fun p e s m below meth c ls A hx hb hr hml hts hown hlocks hP hK hN hD hA hS hl => ?_)
  have hl : lv_has ls 5 [(0, .ref hT), (1, .int q), (2, .int st), (3, .ref hX)] := hl
  refine lv_aload_n hx hb dL_claimAmong_0 rfl (lv_at hl 3 rfl) ?_
  refine lv_iconst (v := 0) hx hb dL_claimAmong_1 (by decide) ?_
  refine lv_aload_n hx hb dL_claimAmong_2 rfl (lv_at hl 0 rfl) ?_
  refine lv_iload_n hx hb dL_claimAmong_3 rfl (lv_at hl 1 rfl) ?_
  refine lv_iload_n hx hb dL_claimAmong_4 rfl (lv_at hl 2 rfl) ?_
  refine mi_V (b := hT) (As := [.int q, .int st]) (rest := [.int 0, .ref hX]) (W2 := [cT hT hB hV a, cB hB hG tr, cA cI hG 1120 (kcF (pAc q st true) g K), cL cJ hX 1 ot]) ⟨hx, hb, hml, hown, hts⟩ (c_X1_claimAmong l D cI cZ cJ _ hT hB hV a hG tr g q st K hK9 hg hz h1 h2 h4 m1 m2 m3) (cwV 2 hts gL_claimAmong_X1_claimAmong rfl rfl rfl (by decide +kernel) ⟨Nat.le_of_ble_eq_true rfl, Nat.le_of_ble_eq_true rfl⟩) hP hD hK hN hS hA (va_recv hK hP (ci := 1) (q0 := 0) rfl rfl) rfl hl.1 rfl (Nat.le_of_ble_eq_true rfl) dL_claimAmong_5 ⟨Nat.le_of_ble_eq_true rfl, Nat.le_of_ble_eq_true rfl⟩ [0, 1, 2] [3] rfl rfl rfl (by intro i hi; simp only [List.mem_cons, List.not_mem_nil, or_false] at hi; rcases hi with rfl <;> rfl) rfl 4 rfl (by decide) (by decide) (fun H locs hP hD hS => ?_)
  refine lv_i2l (v := ((xCnt (pAg (kcF (pAc q st true) g K) tr (yKn a (-1))) (nCt (kcP (pAc q st true) g) K))).toInt64) hx hb dL_claimAmong_8 rfl ?_
  refine q_last (D := D) hx hb hK hP hD hS 3 2 rfl rfl dL_claimAmong_9 (fun H locs hP hD hS => ?_)
  have hP : va_P D vwCl [cT hT hB hV a, cB hB hG tr, cA cI hG 1120 (kcF (pAc q st true) g K), cL cJ hX 1 (vp_updL ot 0 (((xCnt (pAg (kcF (pAc q st true) g K) tr (yKn a (-1))) (nCt (kcP (pAc q st true) g) K))).toInt64))] H := hP
  have hD : va_D A [cT hT hB hV a, cB hB hG tr, cA cI hG 1120 (kcF (pAc q st true) g K), cL cJ hX 1 (vp_updL ot 0 (((xCnt (pAg (kcF (pAc q st true) g K) tr (yKn a (-1))) (nCt (kcP (pAc q st true) g) K))).toInt64))] := hD
  refine lv_goto (tgt := 29) hx hb dL_claimAmong_10 (by decide) ?_
  refine lv_iconst (v := 0) hx hb dL_claimAmong_29 (by decide) ?_
  have hP9 : va_P D vwCl [cT hT hB hV a, cB hB hG tr, cA cI hG 1120 (kcF (pAc q st true) g K), cL cJ hX 1 (vp_updL ot 0 (xCnt (pAg (kcF (pAc q st true) g K) tr (yKn a (-1))) (nCt (kcP (pAc q st true) g) K)).toInt64)] H := by
    have e9_0 : (vp_updL ot 0 (xCnt (pAg (kcF (pAc q st true) g K) tr (yKn a (-1))) (nCt (kcP (pAc q st true) g) K)).toInt64) = (vp_updL ot 0 (((xCnt (pAg (kcF (pAc q st true) g K) tr (yKn a (-1))) (nCt (kcP (pAc q st true) g) K))).toInt64)) := by (first | rfl | (simp only [bI]; rfl))
    rw [e9_0]
    exact hP
  exact mi_iret hx hb hr hlocks hS (by rfl) hP9 dL_claimAmong_30

set_option maxHeartbeats 2000000 in
set_option maxRecDepth 100000 in
theorem f_L_claimAmong (l : Launch) (D : va_G) (cI cZ cJ : ClassId) (sz : Nat) (hst : l.stackTraces = false) (hT : Nat) (hB : Nat) (hV : Nat) (a : Nat → Int32) (hG : Nat) (tr : Int32) (hX : Nat) (ot : Nat → Int64) (q : Int32) (st : Int32) (hk : ¬ kYa a tr q st = 0) : Mx l D cI cZ cJ yL_claimAmong wsL_claimAmong 8 135 sz [.ref hT, .int q, .int st, .ref hX] [cT hT hB hV a, cB hB hG tr, cL cJ hX 1 ot] (kYa a tr q st) := by
  refine mx_ofH (by decide) rfl (Nat.le_of_ble_eq_true rfl) (fun p e s m below meth c ls A hx hb hr hml hts hown hlocks htab hP hK hN hD hA hS hZ hY hXn hl => ?_)
  have hl : lv_has ls 5 [(0, .ref hT), (1, .int q), (2, .int st), (3, .ref hX)] := hl
  refine lv_aload_n hx hb dL_claimAmong_0 rfl (lv_at hl 3 rfl) ?_
  refine lv_iconst (v := 0) hx hb dL_claimAmong_1 (by decide) ?_
  refine lv_aload_n hx hb dL_claimAmong_2 rfl (lv_at hl 0 rfl) ?_
  refine lv_iload_n hx hb dL_claimAmong_3 rfl (lv_at hl 1 rfl) ?_
  refine lv_iload_n hx hb dL_claimAmong_4 rfl (lv_at hl 2 rfl) ?_
  refine xc_V (b := hT) (As := [.int q, .int st]) (rest := [.int 0, .ref hX]) ⟨hx, hb, hml, hown, hts⟩ (t_X1_claimAmong l D cI cZ cJ _ hst hT hB hV a hG tr q st hk) (cwV 2 hts gL_claimAmong_X1_claimAmong rfl rfl rfl (by decide +kernel) ⟨Nat.le_of_ble_eq_true rfl, Nat.le_of_ble_eq_true rfl⟩) hP hD hK hN hY hS hA hZ (va_recv hK hP (ci := 1) (q0 := 0) rfl rfl) rfl hl.1 rfl (Nat.le_of_ble_eq_true rfl) dL_claimAmong_5 ⟨Nat.le_of_ble_eq_true rfl, Nat.le_of_ble_eq_true rfl⟩ [0, 1] [2] rfl rfl 3 rfl (by decide) (by decide) (fun H locs qe ce hP hD hS hq1 hq2 hq3 => ?_)
  have hv9 : kYa a tr q st = 0 ∨ kYa a tr q st = 1 ∨ kYa a tr q st = 2 ∨ kYa a tr q st = 3 ∨ kYa a tr q st = 4 := kYa_in _ _ _ _
  rcases hv9 with h9 | h9 | h9 | h9 | h9
  · exact absurd h9 hk
  · rw [h9] at hq3
    refine vx_catch (E := "java/lang/IllegalStateException") (name := "java/lang/IllegalStateException") hown [] ⟨0, 10, 13, 19⟩ [⟨0, 10, 17, 21⟩, ⟨0, 10, 21, 13⟩, ⟨0, 10, 25, 23⟩] htab (fun _ h => nomatch h) (by decide) (by decide) (hts (.classLink RL 19 "java/lang/IllegalStateException") (List.mem_of_getElem? (i := 1) rfl)) (va_Nw.use rfl (hN.2.2 _ (List.mem_of_getElem? (i := 0) rfl))) hq1 hq2 hq3 ?_
    refine lv_astore (lv' := [(4, .ref qe), (0, .ref hT), (1, .int q), (2, .int st), (3, .ref hX)]) hx hb dL_claimAmong_13 hl (by decide) rfl (fun ls hl => ?_)
    refine lv_iconst (v := 1) hx hb dL_claimAmong_15 (by decide) ?_
    exact mx_iret hx hb hr hlocks hS h9.symm hP dL_claimAmong_16
  · rw [h9] at hq3
    refine vx_catch (E := "java/lang/IndexOutOfBoundsException") (name := "java/lang/IndexOutOfBoundsException") hown [⟨0, 10, 13, 19⟩] ⟨0, 10, 17, 21⟩ [⟨0, 10, 21, 13⟩, ⟨0, 10, 25, 23⟩] htab (List.forall_mem_cons.mpr ⟨Or.inr ⟨by decide, "java/lang/IllegalStateException", (hts (.classLink RL 19 "java/lang/IllegalStateException") (List.mem_of_getElem? (i := 1) rfl)), hXn.at 3 rfl⟩, (fun _ h => nomatch h)⟩) (by decide) (by decide) (hts (.classLink RL 21 "java/lang/IndexOutOfBoundsException") (List.mem_of_getElem? (i := 2) rfl)) (va_Nw.use rfl (hN.2.2 _ (List.mem_of_getElem? (i := 1) rfl))) hq1 hq2 hq3 ?_
    refine lv_astore (lv' := [(4, .ref qe), (0, .ref hT), (1, .int q), (2, .int st), (3, .ref hX)]) hx hb dL_claimAmong_17 hl (by decide) rfl (fun ls hl => ?_)
    refine lv_iconst (v := 2) hx hb dL_claimAmong_19 (by decide) ?_
    exact mx_iret hx hb hr hlocks hS h9.symm hP dL_claimAmong_20
  · rw [h9] at hq3
    refine vx_catch (E := "java/lang/IllegalArgumentException") (name := "java/lang/IllegalArgumentException") hown [⟨0, 10, 13, 19⟩, ⟨0, 10, 17, 21⟩] ⟨0, 10, 21, 13⟩ [⟨0, 10, 25, 23⟩] htab (List.forall_mem_cons.mpr ⟨Or.inr ⟨by decide, "java/lang/IllegalStateException", (hts (.classLink RL 19 "java/lang/IllegalStateException") (List.mem_of_getElem? (i := 1) rfl)), hXn.at 6 rfl⟩, (List.forall_mem_cons.mpr ⟨Or.inr ⟨by decide, "java/lang/IndexOutOfBoundsException", (hts (.classLink RL 21 "java/lang/IndexOutOfBoundsException") (List.mem_of_getElem? (i := 2) rfl)), hXn.at 7 rfl⟩, (fun _ h => nomatch h)⟩)⟩) (by decide) (by decide) (hts (.classLink RL 13 "java/lang/IllegalArgumentException") (List.mem_of_getElem? (i := 3) rfl)) (va_Nw.use rfl (hN.2.2 _ (List.mem_of_getElem? (i := 2) rfl))) hq1 hq2 hq3 ?_
    refine lv_astore (lv' := [(4, .ref qe), (0, .ref hT), (1, .int q), (2, .int st), (3, .ref hX)]) hx hb dL_claimAmong_21 hl (by decide) rfl (fun ls hl => ?_)
    refine lv_iconst (v := 3) hx hb dL_claimAmong_23 (by decide) ?_
    exact mx_iret hx hb hr hlocks hS h9.symm hP dL_claimAmong_24
  · rw [h9] at hq3
    refine vx_catch (E := "java/util/NoSuchElementException") (name := "java/util/NoSuchElementException") hown [⟨0, 10, 13, 19⟩, ⟨0, 10, 17, 21⟩, ⟨0, 10, 21, 13⟩] ⟨0, 10, 25, 23⟩ [] htab (List.forall_mem_cons.mpr ⟨Or.inr ⟨by decide, "java/lang/IllegalStateException", (hts (.classLink RL 19 "java/lang/IllegalStateException") (List.mem_of_getElem? (i := 1) rfl)), hXn.at 9 rfl⟩, (List.forall_mem_cons.mpr ⟨Or.inr ⟨by decide, "java/lang/IndexOutOfBoundsException", (hts (.classLink RL 21 "java/lang/IndexOutOfBoundsException") (List.mem_of_getElem? (i := 2) rfl)), hXn.at 10 rfl⟩, (List.forall_mem_cons.mpr ⟨Or.inr ⟨by decide, "java/lang/IllegalArgumentException", (hts (.classLink RL 13 "java/lang/IllegalArgumentException") (List.mem_of_getElem? (i := 3) rfl)), hXn.at 11 rfl⟩, (fun _ h => nomatch h)⟩)⟩)⟩) (by decide) (by decide) (hts (.classLink RL 23 "java/util/NoSuchElementException") (List.mem_of_getElem? (i := 4) rfl)) (va_Nw.use rfl (hN.2.2 _ (List.mem_of_getElem? (i := 3) rfl))) hq1 hq2 hq3 ?_
    refine lv_astore (lv' := [(4, .ref qe), (0, .ref hT), (1, .int q), (2, .int st), (3, .ref hX)]) hx hb dL_claimAmong_25 hl (by decide) rfl (fun ls hl => ?_)
    refine lv_iconst (v := 4) hx hb dL_claimAmong_27 (by decide) ?_
    exact mx_iret hx hb hr hlocks hS h9.symm hP dL_claimAmong_28

theorem in_L_vote_X1 : ∀ w ∈ wsX10, w ∈ wsL_vote := by decide +kernel
set_option maxHeartbeats 2000000 in
set_option maxRecDepth 100000 in
theorem c_L_vote (l : Launch) (D : va_G) (cI cZ cJ : ClassId) (sz : Nat) (hT : Nat) (hB : Nat) (hV : Nat) (a : Nat → Int32) (v : Nat → Int32) (hX : Nat) (ot : Nat → Int64) (q : Nat) (r : Int32) (hq : q < 8) (h1 : a 0 = 1) (h2 : yPl a (nI q) = true) (h3 : yPl a r = true) (h4 : yIn (a 6) (nI q) = true) (h5 : yIn (a 6) r = true) : Mi l D cI cZ cJ yL_vote wsL_vote 3 63 sz [.ref hT, .int (nI q), .int r, .ref hX] [cT hT hB hV a, cA cI hV 8 v, cL cJ hX 1 ot] [cT hT hB hV a, cA cI hV 8 (upd v q r), cL cJ hX 1 (vp_updL ot 0 (xMv (upd v q r) r 8).toInt64)] (0) := by
  refine mi_ofH (by decide) rfl (Nat.le_of_ble_eq_true rfl) (fun p e s m below meth c ls A hx hb hr hml hts hown hlocks hP hK hN hD hA hS hl => ?_)
  have hl : lv_has ls 5 [(0, .ref hT), (1, .int (nI q)), (2, .int r), (3, .ref hX)] := hl
  refine lv_aload_n hx hb dL_vote_0 rfl (lv_at hl 3 rfl) ?_
  refine lv_iconst (v := 0) hx hb dL_vote_1 (by decide) ?_
  refine lv_aload_n hx hb dL_vote_2 rfl (lv_at hl 0 rfl) ?_
  refine lv_iload_n hx hb dL_vote_3 rfl (lv_at hl 1 rfl) ?_
  refine lv_iload_n hx hb dL_vote_4 rfl (lv_at hl 2 rfl) ?_
  refine mi_V (b := hT) (As := [.int (nI q), .int r]) (rest := [.int 0, .ref hX]) (W2 := [cT hT hB hV a, cA cI hV 8 (upd v q r), cL cJ hX 1 ot]) ⟨hx, hb, hml, hown, hts⟩ (c_X1_vote l D cI cZ cJ _ hT hB hV a v q r hq h1 h2 h3 h4 h5) (cwV 2 hts gL_vote_X1_vote rfl rfl rfl (by decide +kernel) ⟨Nat.le_of_ble_eq_true rfl, Nat.le_of_ble_eq_true rfl⟩) hP hD hK hN hS hA (va_recv hK hP (ci := 1) (q0 := 0) rfl rfl) rfl hl.1 rfl (Nat.le_of_ble_eq_true rfl) dL_vote_5 ⟨Nat.le_of_ble_eq_true rfl, Nat.le_of_ble_eq_true rfl⟩ [0, 1] [2] rfl rfl rfl (by intro i hi; simp only [List.mem_cons, List.not_mem_nil, or_false] at hi; rcases hi with rfl <;> rfl) rfl 3 rfl (by decide) (by decide) (fun H locs hP hD hS => ?_)
  refine lv_i2l (v := ((xMv (upd v q r) r 8)).toInt64) hx hb dL_vote_8 rfl ?_
  refine q_last (D := D) hx hb hK hP hD hS 2 2 rfl rfl dL_vote_9 (fun H locs hP hD hS => ?_)
  have hP : va_P D vwCl [cT hT hB hV a, cA cI hV 8 (upd v q r), cL cJ hX 1 (vp_updL ot 0 (((xMv (upd v q r) r 8)).toInt64))] H := hP
  have hD : va_D A [cT hT hB hV a, cA cI hV 8 (upd v q r), cL cJ hX 1 (vp_updL ot 0 (((xMv (upd v q r) r 8)).toInt64))] := hD
  refine lv_goto (tgt := 25) hx hb dL_vote_10 (by decide) ?_
  refine lv_iconst (v := 0) hx hb dL_vote_25 (by decide) ?_
  have hP9 : va_P D vwCl [cT hT hB hV a, cA cI hV 8 (upd v q r), cL cJ hX 1 (vp_updL ot 0 (xMv (upd v q r) r 8).toInt64)] H := by
    have e9_0 : (vp_updL ot 0 (xMv (upd v q r) r 8).toInt64) = (vp_updL ot 0 (((xMv (upd v q r) r 8)).toInt64)) := by (first | rfl | (simp only [bI]; rfl))
    rw [e9_0]
    exact hP
  exact mi_iret hx hb hr hlocks hS (by rfl) hP9 dL_vote_26

set_option maxHeartbeats 2000000 in
set_option maxRecDepth 100000 in
theorem f_L_vote (l : Launch) (D : va_G) (cI cZ cJ : ClassId) (sz : Nat) (hst : l.stackTraces = false) (hT : Nat) (hB : Nat) (hV : Nat) (a : Nat → Int32) (hX : Nat) (ot : Nat → Int64) (q : Int32) (r : Int32) (hk : ¬ kYv a q r = 0) : Mx l D cI cZ cJ yL_vote wsL_vote 8 133 sz [.ref hT, .int q, .int r, .ref hX] [cT hT hB hV a, cL cJ hX 1 ot] (kYv a q r) := by
  refine mx_ofH (by decide) rfl (Nat.le_of_ble_eq_true rfl) (fun p e s m below meth c ls A hx hb hr hml hts hown hlocks htab hP hK hN hD hA hS hZ hY hXn hl => ?_)
  have hl : lv_has ls 5 [(0, .ref hT), (1, .int q), (2, .int r), (3, .ref hX)] := hl
  refine lv_aload_n hx hb dL_vote_0 rfl (lv_at hl 3 rfl) ?_
  refine lv_iconst (v := 0) hx hb dL_vote_1 (by decide) ?_
  refine lv_aload_n hx hb dL_vote_2 rfl (lv_at hl 0 rfl) ?_
  refine lv_iload_n hx hb dL_vote_3 rfl (lv_at hl 1 rfl) ?_
  refine lv_iload_n hx hb dL_vote_4 rfl (lv_at hl 2 rfl) ?_
  refine xc_V (b := hT) (As := [.int q, .int r]) (rest := [.int 0, .ref hX]) ⟨hx, hb, hml, hown, hts⟩ (t_X1_vote l D cI cZ cJ _ hst hT hB hV a q r hk) (cwV 2 hts gL_vote_X1_vote rfl rfl rfl (by decide +kernel) ⟨Nat.le_of_ble_eq_true rfl, Nat.le_of_ble_eq_true rfl⟩) hP hD hK hN hY hS hA hZ (va_recv hK hP (ci := 1) (q0 := 0) rfl rfl) rfl hl.1 rfl (Nat.le_of_ble_eq_true rfl) dL_vote_5 ⟨Nat.le_of_ble_eq_true rfl, Nat.le_of_ble_eq_true rfl⟩ [0] [1] rfl rfl 2 rfl (by decide) (by decide) (fun H locs qe ce hP hD hS hq1 hq2 hq3 => ?_)
  have hv9 : kYv a q r = 0 ∨ kYv a q r = 1 ∨ kYv a q r = 2 ∨ kYv a q r = 3 := kYv_in _ _ _
  rcases hv9 with h9 | h9 | h9 | h9
  · exact absurd h9 hk
  · rw [h9] at hq3
    refine vx_catch (E := "java/lang/IllegalStateException") (name := "java/lang/IllegalStateException") hown [] ⟨0, 10, 13, 19⟩ [⟨0, 10, 17, 21⟩, ⟨0, 10, 21, 13⟩] htab (fun _ h => nomatch h) (by decide) (by decide) (hts (.classLink RL 19 "java/lang/IllegalStateException") (List.mem_of_getElem? (i := 1) rfl)) (va_Nw.use rfl (hN.2.2 _ (List.mem_of_getElem? (i := 0) rfl))) hq1 hq2 hq3 ?_
    refine lv_astore (lv' := [(4, .ref qe), (0, .ref hT), (1, .int q), (2, .int r), (3, .ref hX)]) hx hb dL_vote_13 hl (by decide) rfl (fun ls hl => ?_)
    refine lv_iconst (v := 1) hx hb dL_vote_15 (by decide) ?_
    exact mx_iret hx hb hr hlocks hS h9.symm hP dL_vote_16
  · rw [h9] at hq3
    refine vx_catch (E := "java/lang/IndexOutOfBoundsException") (name := "java/lang/IndexOutOfBoundsException") hown [⟨0, 10, 13, 19⟩] ⟨0, 10, 17, 21⟩ [⟨0, 10, 21, 13⟩] htab (List.forall_mem_cons.mpr ⟨Or.inr ⟨by decide, "java/lang/IllegalStateException", (hts (.classLink RL 19 "java/lang/IllegalStateException") (List.mem_of_getElem? (i := 1) rfl)), hXn.at 3 rfl⟩, (fun _ h => nomatch h)⟩) (by decide) (by decide) (hts (.classLink RL 21 "java/lang/IndexOutOfBoundsException") (List.mem_of_getElem? (i := 2) rfl)) (va_Nw.use rfl (hN.2.2 _ (List.mem_of_getElem? (i := 1) rfl))) hq1 hq2 hq3 ?_
    refine lv_astore (lv' := [(4, .ref qe), (0, .ref hT), (1, .int q), (2, .int r), (3, .ref hX)]) hx hb dL_vote_17 hl (by decide) rfl (fun ls hl => ?_)
    refine lv_iconst (v := 2) hx hb dL_vote_19 (by decide) ?_
    exact mx_iret hx hb hr hlocks hS h9.symm hP dL_vote_20
  · rw [h9] at hq3
    refine vx_catch (E := "java/lang/IllegalArgumentException") (name := "java/lang/IllegalArgumentException") hown [⟨0, 10, 13, 19⟩, ⟨0, 10, 17, 21⟩] ⟨0, 10, 21, 13⟩ [] htab (List.forall_mem_cons.mpr ⟨Or.inr ⟨by decide, "java/lang/IllegalStateException", (hts (.classLink RL 19 "java/lang/IllegalStateException") (List.mem_of_getElem? (i := 1) rfl)), hXn.at 6 rfl⟩, (List.forall_mem_cons.mpr ⟨Or.inr ⟨by decide, "java/lang/IndexOutOfBoundsException", (hts (.classLink RL 21 "java/lang/IndexOutOfBoundsException") (List.mem_of_getElem? (i := 2) rfl)), hXn.at 7 rfl⟩, (fun _ h => nomatch h)⟩)⟩) (by decide) (by decide) (hts (.classLink RL 13 "java/lang/IllegalArgumentException") (List.mem_of_getElem? (i := 3) rfl)) (va_Nw.use rfl (hN.2.2 _ (List.mem_of_getElem? (i := 2) rfl))) hq1 hq2 hq3 ?_
    refine lv_astore (lv' := [(4, .ref qe), (0, .ref hT), (1, .int q), (2, .int r), (3, .ref hX)]) hx hb dL_vote_21 hl (by decide) rfl (fun ls hl => ?_)
    refine lv_iconst (v := 3) hx hb dL_vote_23 (by decide) ?_
    exact mx_iret hx hb hr hlocks hS h9.symm hP dL_vote_24

theorem in_L_closeVote_X1 : ∀ w ∈ wsX10, w ∈ wsL_closeVote := by decide +kernel
set_option maxHeartbeats 2000000 in
set_option maxRecDepth 100000 in
theorem c_L_closeVote (l : Launch) (D : va_G) (cI cZ cJ : ClassId) (sz : Nat) (hT : Nat) (hB : Nat) (hV : Nat) (a : Nat → Int32) (v : Nat → Int32) (hX : Nat) (ot : Nat → Int64) (n : Nat) (hn : a 2 = nI n) (hn8 : n ≤ 8) (h1 : a 0 = 1) : Mi l D cI cZ cJ yL_closeVote wsL_closeVote 3 71 sz [.ref hT, .ref hX] [cT hT hB hV a, cA cI hV 8 v, cL cJ hX 1 ot] [cT hT hB hV (aYv a (xBM v n).1), cA cI hV 8 (iUp vM v 8), cL cJ hX 1 (vp_updL ot 0 ((xBM v n).1).toInt64)] (0) := by
  refine mi_ofH (by decide) rfl (Nat.le_of_ble_eq_true rfl) (fun p e s m below meth c ls A hx hb hr hml hts hown hlocks hP hK hN hD hA hS hl => ?_)
  have hl : lv_has ls 3 [(0, .ref hT), (1, .ref hX)] := hl
  refine lv_aload_n hx hb dL_closeVote_0 rfl (lv_at hl 1 rfl) ?_
  refine lv_iconst (v := 0) hx hb dL_closeVote_1 (by decide) ?_
  refine lv_aload_n hx hb dL_closeVote_2 rfl (lv_at hl 0 rfl) ?_
  refine mi_V (b := hT) (As := []) (rest := [.int 0, .ref hX]) (W2 := [cT hT hB hV (aYv a (xBM v n).1), cA cI hV 8 (iUp vM v 8), cL cJ hX 1 ot]) ⟨hx, hb, hml, hown, hts⟩ (c_X1_closeVote l D cI cZ cJ _ hT hB hV a v n hn hn8 h1) (cwV 0 hts gL_closeVote_X1_closeVote rfl rfl rfl (by decide +kernel) ⟨Nat.le_of_ble_eq_true rfl, Nat.le_of_ble_eq_true rfl⟩) hP hD hK hN hS hA (va_recv hK hP (ci := 1) (q0 := 0) rfl rfl) rfl hl.1 rfl (Nat.le_of_ble_eq_true rfl) dL_closeVote_3 ⟨Nat.le_of_ble_eq_true rfl, Nat.le_of_ble_eq_true rfl⟩ [0, 1] [2] rfl rfl rfl (by intro i hi; simp only [List.mem_cons, List.not_mem_nil, or_false] at hi; rcases hi with rfl <;> rfl) rfl 3 rfl (by decide) (by decide) (fun H locs hP hD hS => ?_)
  refine lv_i2l (v := (((xBM v n).1)).toInt64) hx hb dL_closeVote_6 rfl ?_
  refine q_last (D := D) hx hb hK hP hD hS 2 2 rfl rfl dL_closeVote_7 (fun H locs hP hD hS => ?_)
  have hP : va_P D vwCl [cT hT hB hV (aYv a (xBM v n).1), cA cI hV 8 (iUp vM v 8), cL cJ hX 1 (vp_updL ot 0 ((((xBM v n).1)).toInt64))] H := hP
  have hD : va_D A [cT hT hB hV (aYv a (xBM v n).1), cA cI hV 8 (iUp vM v 8), cL cJ hX 1 (vp_updL ot 0 ((((xBM v n).1)).toInt64))] := hD
  refine lv_goto (tgt := 14) hx hb dL_closeVote_8 (by decide) ?_
  refine lv_iconst (v := 0) hx hb dL_closeVote_14 (by decide) ?_
  have hP9 : va_P D vwCl [cT hT hB hV (aYv a (xBM v n).1), cA cI hV 8 (iUp vM v 8), cL cJ hX 1 (vp_updL ot 0 ((xBM v n).1).toInt64)] H := by
    have e9_0 : (vp_updL ot 0 ((xBM v n).1).toInt64) = (vp_updL ot 0 ((((xBM v n).1)).toInt64)) := by (first | rfl | (simp only [bI]; rfl))
    rw [e9_0]
    exact hP
  exact mi_iret hx hb hr hlocks hS (by rfl) hP9 dL_closeVote_15

set_option maxHeartbeats 2000000 in
set_option maxRecDepth 100000 in
theorem f_L_closeVote (l : Launch) (D : va_G) (cI cZ cJ : ClassId) (sz : Nat) (hst : l.stackTraces = false) (hT : Nat) (hB : Nat) (hV : Nat) (a : Nat → Int32) (hX : Nat) (ot : Nat → Int64) (hk : ¬ kYh a 1 = 0) : Mx l D cI cZ cJ yL_closeVote wsL_closeVote 8 132 sz [.ref hT, .ref hX] [cT hT hB hV a, cL cJ hX 1 ot] (kYh a 1) := by
  refine mx_ofH (by decide) rfl (Nat.le_of_ble_eq_true rfl) (fun p e s m below meth c ls A hx hb hr hml hts hown hlocks htab hP hK hN hD hA hS hZ hY hXn hl => ?_)
  have hl : lv_has ls 3 [(0, .ref hT), (1, .ref hX)] := hl
  refine lv_aload_n hx hb dL_closeVote_0 rfl (lv_at hl 1 rfl) ?_
  refine lv_iconst (v := 0) hx hb dL_closeVote_1 (by decide) ?_
  refine lv_aload_n hx hb dL_closeVote_2 rfl (lv_at hl 0 rfl) ?_
  refine xc_V (b := hT) (As := []) (rest := [.int 0, .ref hX]) ⟨hx, hb, hml, hown, hts⟩ (t_X1_closeVote l D cI cZ cJ _ hst hT hB hV a hk) (cwV 0 hts gL_closeVote_X1_closeVote rfl rfl rfl (by decide +kernel) ⟨Nat.le_of_ble_eq_true rfl, Nat.le_of_ble_eq_true rfl⟩) hP hD hK hN hY hS hA hZ (va_recv hK hP (ci := 1) (q0 := 0) rfl rfl) rfl hl.1 rfl (Nat.le_of_ble_eq_true rfl) dL_closeVote_3 ⟨Nat.le_of_ble_eq_true rfl, Nat.le_of_ble_eq_true rfl⟩ [0] [1] rfl rfl 2 rfl (by decide) (by decide) (fun H locs qe ce hP hD hS hq1 hq2 hq3 => ?_)
  have hv9 : kYh a 1 = 0 ∨ kYh a 1 = 1 := kYh_in _ _
  rcases hv9 with h9 | h9
  · exact absurd h9 hk
  · rw [h9] at hq3
    refine vx_catch (E := "java/lang/IllegalStateException") (name := "java/lang/IllegalStateException") hown [] ⟨0, 8, 11, 19⟩ [] htab (fun _ h => nomatch h) (by decide) (by decide) (hts (.classLink RL 19 "java/lang/IllegalStateException") (List.mem_of_getElem? (i := 1) rfl)) (va_Nw.use rfl (hN.2.2 _ (List.mem_of_getElem? (i := 0) rfl))) hq1 hq2 hq3 ?_
    refine lv_astore_n (lv' := [(2, .ref qe), (0, .ref hT), (1, .ref hX)]) hx hb dL_closeVote_11 rfl hl (by decide) rfl (fun ls hl => ?_)
    refine lv_iconst (v := 1) hx hb dL_closeVote_12 (by decide) ?_
    exact mx_iret hx hb hr hlocks hS h9.symm hP dL_closeVote_13

theorem in_L_protect_X1 : ∀ w ∈ wsX10, w ∈ wsL_protect := by decide +kernel
set_option maxHeartbeats 2000000 in
set_option maxRecDepth 100000 in
theorem c_L_protect (l : Launch) (D : va_G) (cI cZ cJ : ClassId) (sz : Nat) (hT : Nat) (hB : Nat) (hV : Nat) (a : Nat → Int32) (hX : Nat) (ot : Nat → Int64) (q : Int32) (h1 : a 0 = 2) (h2 : yIn (a 6) (a 5) = true) (h3 : yPl a q = true) (h4 : yIn (a 6) q = true) (h5 : ¬ q = a 11) : Mi l D cI cZ cJ yL_protect wsL_protect 4 84 sz [.ref hT, .int q, .ref hX] [cT hT hB hV a, cL cJ hX 1 ot] [cT hT hB hV (upd a 8 q), cL cJ hX 1 (vp_updL ot 0 (a 8).toInt64)] (0) := by
  refine mi_ofH (by decide) rfl (Nat.le_of_ble_eq_true rfl) (fun p e s m below meth c ls A hx hb hr hml hts hown hlocks hP hK hN hD hA hS hl => ?_)
  have hl : lv_has ls 4 [(0, .ref hT), (1, .int q), (2, .ref hX)] := hl
  refine lv_aload_n hx hb dL_protect_0 rfl (lv_at hl 2 rfl) ?_
  refine lv_iconst (v := 0) hx hb dL_protect_1 (by decide) ?_
  refine lv_aload_n hx hb dL_protect_2 rfl (lv_at hl 0 rfl) ?_
  refine lv_iload_n hx hb dL_protect_3 rfl (lv_at hl 1 rfl) ?_
  refine mi_V (b := hT) (As := [.int q]) (rest := [.int 0, .ref hX]) (W2 := [cT hT hB hV (upd a 8 q), cL cJ hX 1 ot]) ⟨hx, hb, hml, hown, hts⟩ (c_X1_protect l D cI cZ cJ _ hT hB hV a q h1 h2 h3 h4 h5) (cwV 1 hts gL_protect_X1_protect rfl rfl rfl (by decide +kernel) ⟨Nat.le_of_ble_eq_true rfl, Nat.le_of_ble_eq_true rfl⟩) hP hD hK hN hS hA (va_recv hK hP (ci := 1) (q0 := 0) rfl rfl) rfl hl.1 rfl (Nat.le_of_ble_eq_true rfl) dL_protect_4 ⟨Nat.le_of_ble_eq_true rfl, Nat.le_of_ble_eq_true rfl⟩ [0] [1] rfl rfl rfl (by intro i hi; simp only [List.mem_cons, List.not_mem_nil, or_false] at hi; rcases hi with rfl <;> rfl) rfl 2 rfl (by decide) (by decide) (fun H locs hP hD hS => ?_)
  refine lv_i2l (v := ((a 8)).toInt64) hx hb dL_protect_7 rfl ?_
  refine q_last (D := D) hx hb hK hP hD hS 1 2 rfl rfl dL_protect_8 (fun H locs hP hD hS => ?_)
  have hP : va_P D vwCl [cT hT hB hV (upd a 8 q), cL cJ hX 1 (vp_updL ot 0 (((a 8)).toInt64))] H := hP
  have hD : va_D A [cT hT hB hV (upd a 8 q), cL cJ hX 1 (vp_updL ot 0 (((a 8)).toInt64))] := hD
  refine lv_goto (tgt := 21) hx hb dL_protect_9 (by decide) ?_
  refine lv_iconst (v := 0) hx hb dL_protect_21 (by decide) ?_
  have hP9 : va_P D vwCl [cT hT hB hV (upd a 8 q), cL cJ hX 1 (vp_updL ot 0 (a 8).toInt64)] H := by
    have e9_0 : (vp_updL ot 0 (a 8).toInt64) = (vp_updL ot 0 (((a 8)).toInt64)) := by (first | rfl | (simp only [bI]; rfl))
    rw [e9_0]
    exact hP
  exact mi_iret hx hb hr hlocks hS (by rfl) hP9 dL_protect_22

set_option maxHeartbeats 2000000 in
set_option maxRecDepth 100000 in
theorem f_L_protect (l : Launch) (D : va_G) (cI cZ cJ : ClassId) (sz : Nat) (hst : l.stackTraces = false) (hT : Nat) (hB : Nat) (hV : Nat) (a : Nat → Int32) (hX : Nat) (ot : Nat → Int64) (q : Int32) (hk : ¬ kYp a q = 0) : Mx l D cI cZ cJ yL_protect wsL_protect 8 133 sz [.ref hT, .int q, .ref hX] [cT hT hB hV a, cL cJ hX 1 ot] (kYp a q) := by
  refine mx_ofH (by decide) rfl (Nat.le_of_ble_eq_true rfl) (fun p e s m below meth c ls A hx hb hr hml hts hown hlocks htab hP hK hN hD hA hS hZ hY hXn hl => ?_)
  have hl : lv_has ls 4 [(0, .ref hT), (1, .int q), (2, .ref hX)] := hl
  refine lv_aload_n hx hb dL_protect_0 rfl (lv_at hl 2 rfl) ?_
  refine lv_iconst (v := 0) hx hb dL_protect_1 (by decide) ?_
  refine lv_aload_n hx hb dL_protect_2 rfl (lv_at hl 0 rfl) ?_
  refine lv_iload_n hx hb dL_protect_3 rfl (lv_at hl 1 rfl) ?_
  refine xc_V (b := hT) (As := [.int q]) (rest := [.int 0, .ref hX]) ⟨hx, hb, hml, hown, hts⟩ (t_X1_protect l D cI cZ cJ _ hst hT hB hV a q hk) (cwV 1 hts gL_protect_X1_protect rfl rfl rfl (by decide +kernel) ⟨Nat.le_of_ble_eq_true rfl, Nat.le_of_ble_eq_true rfl⟩) hP hD hK hN hY hS hA hZ (va_recv hK hP (ci := 1) (q0 := 0) rfl rfl) rfl hl.1 rfl (Nat.le_of_ble_eq_true rfl) dL_protect_4 ⟨Nat.le_of_ble_eq_true rfl, Nat.le_of_ble_eq_true rfl⟩ [0] [1] rfl rfl 2 rfl (by decide) (by decide) (fun H locs qe ce hP hD hS hq1 hq2 hq3 => ?_)
  have hv9 : kYp a q = 0 ∨ kYp a q = 1 ∨ kYp a q = 2 ∨ kYp a q = 3 := kYp_in _ _
  rcases hv9 with h9 | h9 | h9 | h9
  · exact absurd h9 hk
  · rw [h9] at hq3
    refine vx_catch (E := "java/lang/IllegalStateException") (name := "java/lang/IllegalStateException") hown [] ⟨0, 9, 12, 19⟩ [⟨0, 9, 15, 21⟩, ⟨0, 9, 18, 13⟩] htab (fun _ h => nomatch h) (by decide) (by decide) (hts (.classLink RL 19 "java/lang/IllegalStateException") (List.mem_of_getElem? (i := 1) rfl)) (va_Nw.use rfl (hN.2.2 _ (List.mem_of_getElem? (i := 0) rfl))) hq1 hq2 hq3 ?_
    refine lv_astore_n (lv' := [(3, .ref qe), (0, .ref hT), (1, .int q), (2, .ref hX)]) hx hb dL_protect_12 rfl hl (by decide) rfl (fun ls hl => ?_)
    refine lv_iconst (v := 1) hx hb dL_protect_13 (by decide) ?_
    exact mx_iret hx hb hr hlocks hS h9.symm hP dL_protect_14
  · rw [h9] at hq3
    refine vx_catch (E := "java/lang/IndexOutOfBoundsException") (name := "java/lang/IndexOutOfBoundsException") hown [⟨0, 9, 12, 19⟩] ⟨0, 9, 15, 21⟩ [⟨0, 9, 18, 13⟩] htab (List.forall_mem_cons.mpr ⟨Or.inr ⟨by decide, "java/lang/IllegalStateException", (hts (.classLink RL 19 "java/lang/IllegalStateException") (List.mem_of_getElem? (i := 1) rfl)), hXn.at 3 rfl⟩, (fun _ h => nomatch h)⟩) (by decide) (by decide) (hts (.classLink RL 21 "java/lang/IndexOutOfBoundsException") (List.mem_of_getElem? (i := 2) rfl)) (va_Nw.use rfl (hN.2.2 _ (List.mem_of_getElem? (i := 1) rfl))) hq1 hq2 hq3 ?_
    refine lv_astore_n (lv' := [(3, .ref qe), (0, .ref hT), (1, .int q), (2, .ref hX)]) hx hb dL_protect_15 rfl hl (by decide) rfl (fun ls hl => ?_)
    refine lv_iconst (v := 2) hx hb dL_protect_16 (by decide) ?_
    exact mx_iret hx hb hr hlocks hS h9.symm hP dL_protect_17
  · rw [h9] at hq3
    refine vx_catch (E := "java/lang/IllegalArgumentException") (name := "java/lang/IllegalArgumentException") hown [⟨0, 9, 12, 19⟩, ⟨0, 9, 15, 21⟩] ⟨0, 9, 18, 13⟩ [] htab (List.forall_mem_cons.mpr ⟨Or.inr ⟨by decide, "java/lang/IllegalStateException", (hts (.classLink RL 19 "java/lang/IllegalStateException") (List.mem_of_getElem? (i := 1) rfl)), hXn.at 6 rfl⟩, (List.forall_mem_cons.mpr ⟨Or.inr ⟨by decide, "java/lang/IndexOutOfBoundsException", (hts (.classLink RL 21 "java/lang/IndexOutOfBoundsException") (List.mem_of_getElem? (i := 2) rfl)), hXn.at 7 rfl⟩, (fun _ h => nomatch h)⟩)⟩) (by decide) (by decide) (hts (.classLink RL 13 "java/lang/IllegalArgumentException") (List.mem_of_getElem? (i := 3) rfl)) (va_Nw.use rfl (hN.2.2 _ (List.mem_of_getElem? (i := 2) rfl))) hq1 hq2 hq3 ?_
    refine lv_astore_n (lv' := [(3, .ref qe), (0, .ref hT), (1, .int q), (2, .ref hX)]) hx hb dL_protect_18 rfl hl (by decide) rfl (fun ls hl => ?_)
    refine lv_iconst (v := 3) hx hb dL_protect_19 (by decide) ?_
    exact mx_iret hx hb hr hlocks hS h9.symm hP dL_protect_20

theorem in_L_attack_X1 : ∀ w ∈ wsX10, w ∈ wsL_attack := by decide +kernel
set_option maxHeartbeats 2000000 in
set_option maxRecDepth 100000 in
theorem c_L_attack (l : Launch) (D : va_G) (cI cZ cJ : ClassId) (sz : Nat) (hT : Nat) (hB : Nat) (hV : Nat) (a : Nat → Int32) (hX : Nat) (ot : Nat → Int64) (q : Int32) (h1 : a 0 = 2) (h3 : yPl a q = true) (h4 : yIn (a 6) q = true) (h5 : yIn (a 3) q = false) : Mi l D cI cZ cJ yL_attack wsL_attack 3 63 sz [.ref hT, .int q, .ref hX] [cT hT hB hV a, cL cJ hX 1 ot] [cT hT hB hV (upd a 9 q), cL cJ hX 1 (vp_updL ot 0 (a 9).toInt64)] (0) := by
  refine mi_ofH (by decide) rfl (Nat.le_of_ble_eq_true rfl) (fun p e s m below meth c ls A hx hb hr hml hts hown hlocks hP hK hN hD hA hS hl => ?_)
  have hl : lv_has ls 4 [(0, .ref hT), (1, .int q), (2, .ref hX)] := hl
  refine lv_aload_n hx hb dL_attack_0 rfl (lv_at hl 2 rfl) ?_
  refine lv_iconst (v := 0) hx hb dL_attack_1 (by decide) ?_
  refine lv_aload_n hx hb dL_attack_2 rfl (lv_at hl 0 rfl) ?_
  refine lv_iload_n hx hb dL_attack_3 rfl (lv_at hl 1 rfl) ?_
  refine mi_V (b := hT) (As := [.int q]) (rest := [.int 0, .ref hX]) (W2 := [cT hT hB hV (upd a 9 q), cL cJ hX 1 ot]) ⟨hx, hb, hml, hown, hts⟩ (c_X1_attack l D cI cZ cJ _ hT hB hV a q h1 h3 h4 h5) (cwV 1 hts gL_attack_X1_attack rfl rfl rfl (by decide +kernel) ⟨Nat.le_of_ble_eq_true rfl, Nat.le_of_ble_eq_true rfl⟩) hP hD hK hN hS hA (va_recv hK hP (ci := 1) (q0 := 0) rfl rfl) rfl hl.1 rfl (Nat.le_of_ble_eq_true rfl) dL_attack_4 ⟨Nat.le_of_ble_eq_true rfl, Nat.le_of_ble_eq_true rfl⟩ [0] [1] rfl rfl rfl (by intro i hi; simp only [List.mem_cons, List.not_mem_nil, or_false] at hi; rcases hi with rfl <;> rfl) rfl 2 rfl (by decide) (by decide) (fun H locs hP hD hS => ?_)
  refine lv_i2l (v := ((a 9)).toInt64) hx hb dL_attack_7 rfl ?_
  refine q_last (D := D) hx hb hK hP hD hS 1 2 rfl rfl dL_attack_8 (fun H locs hP hD hS => ?_)
  have hP : va_P D vwCl [cT hT hB hV (upd a 9 q), cL cJ hX 1 (vp_updL ot 0 (((a 9)).toInt64))] H := hP
  have hD : va_D A [cT hT hB hV (upd a 9 q), cL cJ hX 1 (vp_updL ot 0 (((a 9)).toInt64))] := hD
  refine lv_goto (tgt := 21) hx hb dL_attack_9 (by decide) ?_
  refine lv_iconst (v := 0) hx hb dL_attack_21 (by decide) ?_
  have hP9 : va_P D vwCl [cT hT hB hV (upd a 9 q), cL cJ hX 1 (vp_updL ot 0 (a 9).toInt64)] H := by
    have e9_0 : (vp_updL ot 0 (a 9).toInt64) = (vp_updL ot 0 (((a 9)).toInt64)) := by (first | rfl | (simp only [bI]; rfl))
    rw [e9_0]
    exact hP
  exact mi_iret hx hb hr hlocks hS (by rfl) hP9 dL_attack_22

set_option maxHeartbeats 2000000 in
set_option maxRecDepth 100000 in
theorem f_L_attack (l : Launch) (D : va_G) (cI cZ cJ : ClassId) (sz : Nat) (hst : l.stackTraces = false) (hT : Nat) (hB : Nat) (hV : Nat) (a : Nat → Int32) (hX : Nat) (ot : Nat → Int64) (q : Int32) (hk : ¬ kYt a q = 0) : Mx l D cI cZ cJ yL_attack wsL_attack 8 133 sz [.ref hT, .int q, .ref hX] [cT hT hB hV a, cL cJ hX 1 ot] (kYt a q) := by
  refine mx_ofH (by decide) rfl (Nat.le_of_ble_eq_true rfl) (fun p e s m below meth c ls A hx hb hr hml hts hown hlocks htab hP hK hN hD hA hS hZ hY hXn hl => ?_)
  have hl : lv_has ls 4 [(0, .ref hT), (1, .int q), (2, .ref hX)] := hl
  refine lv_aload_n hx hb dL_attack_0 rfl (lv_at hl 2 rfl) ?_
  refine lv_iconst (v := 0) hx hb dL_attack_1 (by decide) ?_
  refine lv_aload_n hx hb dL_attack_2 rfl (lv_at hl 0 rfl) ?_
  refine lv_iload_n hx hb dL_attack_3 rfl (lv_at hl 1 rfl) ?_
  refine xc_V (b := hT) (As := [.int q]) (rest := [.int 0, .ref hX]) ⟨hx, hb, hml, hown, hts⟩ (t_X1_attack l D cI cZ cJ _ hst hT hB hV a q hk) (cwV 1 hts gL_attack_X1_attack rfl rfl rfl (by decide +kernel) ⟨Nat.le_of_ble_eq_true rfl, Nat.le_of_ble_eq_true rfl⟩) hP hD hK hN hY hS hA hZ (va_recv hK hP (ci := 1) (q0 := 0) rfl rfl) rfl hl.1 rfl (Nat.le_of_ble_eq_true rfl) dL_attack_4 ⟨Nat.le_of_ble_eq_true rfl, Nat.le_of_ble_eq_true rfl⟩ [0] [1] rfl rfl 2 rfl (by decide) (by decide) (fun H locs qe ce hP hD hS hq1 hq2 hq3 => ?_)
  have hv9 : kYt a q = 0 ∨ kYt a q = 1 ∨ kYt a q = 2 ∨ kYt a q = 3 := kYt_in _ _
  rcases hv9 with h9 | h9 | h9 | h9
  · exact absurd h9 hk
  · rw [h9] at hq3
    refine vx_catch (E := "java/lang/IllegalStateException") (name := "java/lang/IllegalStateException") hown [] ⟨0, 9, 12, 19⟩ [⟨0, 9, 15, 21⟩, ⟨0, 9, 18, 13⟩] htab (fun _ h => nomatch h) (by decide) (by decide) (hts (.classLink RL 19 "java/lang/IllegalStateException") (List.mem_of_getElem? (i := 1) rfl)) (va_Nw.use rfl (hN.2.2 _ (List.mem_of_getElem? (i := 0) rfl))) hq1 hq2 hq3 ?_
    refine lv_astore_n (lv' := [(3, .ref qe), (0, .ref hT), (1, .int q), (2, .ref hX)]) hx hb dL_attack_12 rfl hl (by decide) rfl (fun ls hl => ?_)
    refine lv_iconst (v := 1) hx hb dL_attack_13 (by decide) ?_
    exact mx_iret hx hb hr hlocks hS h9.symm hP dL_attack_14
  · rw [h9] at hq3
    refine vx_catch (E := "java/lang/IndexOutOfBoundsException") (name := "java/lang/IndexOutOfBoundsException") hown [⟨0, 9, 12, 19⟩] ⟨0, 9, 15, 21⟩ [⟨0, 9, 18, 13⟩] htab (List.forall_mem_cons.mpr ⟨Or.inr ⟨by decide, "java/lang/IllegalStateException", (hts (.classLink RL 19 "java/lang/IllegalStateException") (List.mem_of_getElem? (i := 1) rfl)), hXn.at 3 rfl⟩, (fun _ h => nomatch h)⟩) (by decide) (by decide) (hts (.classLink RL 21 "java/lang/IndexOutOfBoundsException") (List.mem_of_getElem? (i := 2) rfl)) (va_Nw.use rfl (hN.2.2 _ (List.mem_of_getElem? (i := 1) rfl))) hq1 hq2 hq3 ?_
    refine lv_astore_n (lv' := [(3, .ref qe), (0, .ref hT), (1, .int q), (2, .ref hX)]) hx hb dL_attack_15 rfl hl (by decide) rfl (fun ls hl => ?_)
    refine lv_iconst (v := 2) hx hb dL_attack_16 (by decide) ?_
    exact mx_iret hx hb hr hlocks hS h9.symm hP dL_attack_17
  · rw [h9] at hq3
    refine vx_catch (E := "java/lang/IllegalArgumentException") (name := "java/lang/IllegalArgumentException") hown [⟨0, 9, 12, 19⟩, ⟨0, 9, 15, 21⟩] ⟨0, 9, 18, 13⟩ [] htab (List.forall_mem_cons.mpr ⟨Or.inr ⟨by decide, "java/lang/IllegalStateException", (hts (.classLink RL 19 "java/lang/IllegalStateException") (List.mem_of_getElem? (i := 1) rfl)), hXn.at 6 rfl⟩, (List.forall_mem_cons.mpr ⟨Or.inr ⟨by decide, "java/lang/IndexOutOfBoundsException", (hts (.classLink RL 21 "java/lang/IndexOutOfBoundsException") (List.mem_of_getElem? (i := 2) rfl)), hXn.at 7 rfl⟩, (fun _ h => nomatch h)⟩)⟩) (by decide) (by decide) (hts (.classLink RL 13 "java/lang/IllegalArgumentException") (List.mem_of_getElem? (i := 3) rfl)) (va_Nw.use rfl (hN.2.2 _ (List.mem_of_getElem? (i := 2) rfl))) hq1 hq2 hq3 ?_
    refine lv_astore_n (lv' := [(3, .ref qe), (0, .ref hT), (1, .int q), (2, .ref hX)]) hx hb dL_attack_18 rfl hl (by decide) rfl (fun ls hl => ?_)
    refine lv_iconst (v := 3) hx hb dL_attack_19 (by decide) ?_
    exact mx_iret hx hb hr hlocks hS h9.symm hP dL_attack_20

theorem in_L_look_X1 : ∀ w ∈ wsX10, w ∈ wsL_look := by decide +kernel
set_option maxHeartbeats 2000000 in
set_option maxRecDepth 100000 in
theorem c_L_look (l : Launch) (D : va_G) (cI cZ cJ : ClassId) (sz : Nat) (hT : Nat) (hB : Nat) (hV : Nat) (a : Nat → Int32) (hX : Nat) (ot : Nat → Int64) (q : Int32) (h1 : a 0 = 2) (h2 : yIn (a 6) (a 4) = true) (h3 : yPl a q = true) (h4 : yIn (a 6) q = true) (h5 : ¬ q = a 4) : Mi l D cI cZ cJ yL_look wsL_look 4 84 sz [.ref hT, .int q, .ref hX] [cT hT hB hV a, cL cJ hX 1 ot] [cT hT hB hV (upd a 10 q), cL cJ hX 1 (vp_updL ot 0 (a 10).toInt64)] (0) := by
  refine mi_ofH (by decide) rfl (Nat.le_of_ble_eq_true rfl) (fun p e s m below meth c ls A hx hb hr hml hts hown hlocks hP hK hN hD hA hS hl => ?_)
  have hl : lv_has ls 4 [(0, .ref hT), (1, .int q), (2, .ref hX)] := hl
  refine lv_aload_n hx hb dL_look_0 rfl (lv_at hl 2 rfl) ?_
  refine lv_iconst (v := 0) hx hb dL_look_1 (by decide) ?_
  refine lv_aload_n hx hb dL_look_2 rfl (lv_at hl 0 rfl) ?_
  refine lv_iload_n hx hb dL_look_3 rfl (lv_at hl 1 rfl) ?_
  refine mi_V (b := hT) (As := [.int q]) (rest := [.int 0, .ref hX]) (W2 := [cT hT hB hV (upd a 10 q), cL cJ hX 1 ot]) ⟨hx, hb, hml, hown, hts⟩ (c_X1_look l D cI cZ cJ _ hT hB hV a q h1 h2 h3 h4 h5) (cwV 1 hts gL_look_X1_look rfl rfl rfl (by decide +kernel) ⟨Nat.le_of_ble_eq_true rfl, Nat.le_of_ble_eq_true rfl⟩) hP hD hK hN hS hA (va_recv hK hP (ci := 1) (q0 := 0) rfl rfl) rfl hl.1 rfl (Nat.le_of_ble_eq_true rfl) dL_look_4 ⟨Nat.le_of_ble_eq_true rfl, Nat.le_of_ble_eq_true rfl⟩ [0] [1] rfl rfl rfl (by intro i hi; simp only [List.mem_cons, List.not_mem_nil, or_false] at hi; rcases hi with rfl <;> rfl) rfl 2 rfl (by decide) (by decide) (fun H locs hP hD hS => ?_)
  refine lv_i2l (v := ((a 10)).toInt64) hx hb dL_look_7 rfl ?_
  refine q_last (D := D) hx hb hK hP hD hS 1 2 rfl rfl dL_look_8 (fun H locs hP hD hS => ?_)
  have hP : va_P D vwCl [cT hT hB hV (upd a 10 q), cL cJ hX 1 (vp_updL ot 0 (((a 10)).toInt64))] H := hP
  have hD : va_D A [cT hT hB hV (upd a 10 q), cL cJ hX 1 (vp_updL ot 0 (((a 10)).toInt64))] := hD
  refine lv_goto (tgt := 21) hx hb dL_look_9 (by decide) ?_
  refine lv_iconst (v := 0) hx hb dL_look_21 (by decide) ?_
  have hP9 : va_P D vwCl [cT hT hB hV (upd a 10 q), cL cJ hX 1 (vp_updL ot 0 (a 10).toInt64)] H := by
    have e9_0 : (vp_updL ot 0 (a 10).toInt64) = (vp_updL ot 0 (((a 10)).toInt64)) := by (first | rfl | (simp only [bI]; rfl))
    rw [e9_0]
    exact hP
  exact mi_iret hx hb hr hlocks hS (by rfl) hP9 dL_look_22

set_option maxHeartbeats 2000000 in
set_option maxRecDepth 100000 in
theorem f_L_look (l : Launch) (D : va_G) (cI cZ cJ : ClassId) (sz : Nat) (hst : l.stackTraces = false) (hT : Nat) (hB : Nat) (hV : Nat) (a : Nat → Int32) (hX : Nat) (ot : Nat → Int64) (q : Int32) (hk : ¬ kYl a q = 0) : Mx l D cI cZ cJ yL_look wsL_look 8 133 sz [.ref hT, .int q, .ref hX] [cT hT hB hV a, cL cJ hX 1 ot] (kYl a q) := by
  refine mx_ofH (by decide) rfl (Nat.le_of_ble_eq_true rfl) (fun p e s m below meth c ls A hx hb hr hml hts hown hlocks htab hP hK hN hD hA hS hZ hY hXn hl => ?_)
  have hl : lv_has ls 4 [(0, .ref hT), (1, .int q), (2, .ref hX)] := hl
  refine lv_aload_n hx hb dL_look_0 rfl (lv_at hl 2 rfl) ?_
  refine lv_iconst (v := 0) hx hb dL_look_1 (by decide) ?_
  refine lv_aload_n hx hb dL_look_2 rfl (lv_at hl 0 rfl) ?_
  refine lv_iload_n hx hb dL_look_3 rfl (lv_at hl 1 rfl) ?_
  refine xc_V (b := hT) (As := [.int q]) (rest := [.int 0, .ref hX]) ⟨hx, hb, hml, hown, hts⟩ (t_X1_look l D cI cZ cJ _ hst hT hB hV a q hk) (cwV 1 hts gL_look_X1_look rfl rfl rfl (by decide +kernel) ⟨Nat.le_of_ble_eq_true rfl, Nat.le_of_ble_eq_true rfl⟩) hP hD hK hN hY hS hA hZ (va_recv hK hP (ci := 1) (q0 := 0) rfl rfl) rfl hl.1 rfl (Nat.le_of_ble_eq_true rfl) dL_look_4 ⟨Nat.le_of_ble_eq_true rfl, Nat.le_of_ble_eq_true rfl⟩ [0] [1] rfl rfl 2 rfl (by decide) (by decide) (fun H locs qe ce hP hD hS hq1 hq2 hq3 => ?_)
  have hv9 : kYl a q = 0 ∨ kYl a q = 1 ∨ kYl a q = 2 ∨ kYl a q = 3 := kYl_in _ _
  rcases hv9 with h9 | h9 | h9 | h9
  · exact absurd h9 hk
  · rw [h9] at hq3
    refine vx_catch (E := "java/lang/IllegalStateException") (name := "java/lang/IllegalStateException") hown [] ⟨0, 9, 12, 19⟩ [⟨0, 9, 15, 21⟩, ⟨0, 9, 18, 13⟩] htab (fun _ h => nomatch h) (by decide) (by decide) (hts (.classLink RL 19 "java/lang/IllegalStateException") (List.mem_of_getElem? (i := 1) rfl)) (va_Nw.use rfl (hN.2.2 _ (List.mem_of_getElem? (i := 0) rfl))) hq1 hq2 hq3 ?_
    refine lv_astore_n (lv' := [(3, .ref qe), (0, .ref hT), (1, .int q), (2, .ref hX)]) hx hb dL_look_12 rfl hl (by decide) rfl (fun ls hl => ?_)
    refine lv_iconst (v := 1) hx hb dL_look_13 (by decide) ?_
    exact mx_iret hx hb hr hlocks hS h9.symm hP dL_look_14
  · rw [h9] at hq3
    refine vx_catch (E := "java/lang/IndexOutOfBoundsException") (name := "java/lang/IndexOutOfBoundsException") hown [⟨0, 9, 12, 19⟩] ⟨0, 9, 15, 21⟩ [⟨0, 9, 18, 13⟩] htab (List.forall_mem_cons.mpr ⟨Or.inr ⟨by decide, "java/lang/IllegalStateException", (hts (.classLink RL 19 "java/lang/IllegalStateException") (List.mem_of_getElem? (i := 1) rfl)), hXn.at 3 rfl⟩, (fun _ h => nomatch h)⟩) (by decide) (by decide) (hts (.classLink RL 21 "java/lang/IndexOutOfBoundsException") (List.mem_of_getElem? (i := 2) rfl)) (va_Nw.use rfl (hN.2.2 _ (List.mem_of_getElem? (i := 1) rfl))) hq1 hq2 hq3 ?_
    refine lv_astore_n (lv' := [(3, .ref qe), (0, .ref hT), (1, .int q), (2, .ref hX)]) hx hb dL_look_15 rfl hl (by decide) rfl (fun ls hl => ?_)
    refine lv_iconst (v := 2) hx hb dL_look_16 (by decide) ?_
    exact mx_iret hx hb hr hlocks hS h9.symm hP dL_look_17
  · rw [h9] at hq3
    refine vx_catch (E := "java/lang/IllegalArgumentException") (name := "java/lang/IllegalArgumentException") hown [⟨0, 9, 12, 19⟩, ⟨0, 9, 15, 21⟩] ⟨0, 9, 18, 13⟩ [] htab (List.forall_mem_cons.mpr ⟨Or.inr ⟨by decide, "java/lang/IllegalStateException", (hts (.classLink RL 19 "java/lang/IllegalStateException") (List.mem_of_getElem? (i := 1) rfl)), hXn.at 6 rfl⟩, (List.forall_mem_cons.mpr ⟨Or.inr ⟨by decide, "java/lang/IndexOutOfBoundsException", (hts (.classLink RL 21 "java/lang/IndexOutOfBoundsException") (List.mem_of_getElem? (i := 2) rfl)), hXn.at 7 rfl⟩, (fun _ h => nomatch h)⟩)⟩) (by decide) (by decide) (hts (.classLink RL 13 "java/lang/IllegalArgumentException") (List.mem_of_getElem? (i := 3) rfl)) (va_Nw.use rfl (hN.2.2 _ (List.mem_of_getElem? (i := 2) rfl))) hq1 hq2 hq3 ?_
    refine lv_astore_n (lv' := [(3, .ref qe), (0, .ref hT), (1, .int q), (2, .ref hX)]) hx hb dL_look_18 rfl hl (by decide) rfl (fun ls hl => ?_)
    refine lv_iconst (v := 3) hx hb dL_look_19 (by decide) ?_
    exact mx_iret hx hb hr hlocks hS h9.symm hP dL_look_20

theorem in_L_endNight_X1 : ∀ w ∈ wsX10, w ∈ wsL_endNight := by decide +kernel
set_option maxHeartbeats 2000000 in
set_option maxRecDepth 100000 in
theorem c_L_endNight (l : Launch) (D : va_G) (cI cZ cJ : ClassId) (sz : Nat) (hT : Nat) (hB : Nat) (hV : Nat) (a : Nat → Int32) (hX : Nat) (ot : Nat → Int64) (h1 : a 0 = 2) : Mi l D cI cZ cJ yL_endNight wsL_endNight 4 82 sz [.ref hT, .ref hX] [cT hT hB hV a, cL cJ hX 1 ot] [cT hT hB hV (aYe a), cL cJ hX 1 (vp_updL ot 0 (xDead a).toInt64)] (0) := by
  refine mi_ofH (by decide) rfl (Nat.le_of_ble_eq_true rfl) (fun p e s m below meth c ls A hx hb hr hml hts hown hlocks hP hK hN hD hA hS hl => ?_)
  have hl : lv_has ls 3 [(0, .ref hT), (1, .ref hX)] := hl
  refine lv_aload_n hx hb dL_endNight_0 rfl (lv_at hl 1 rfl) ?_
  refine lv_iconst (v := 0) hx hb dL_endNight_1 (by decide) ?_
  refine lv_aload_n hx hb dL_endNight_2 rfl (lv_at hl 0 rfl) ?_
  refine mi_V (b := hT) (As := []) (rest := [.int 0, .ref hX]) (W2 := [cT hT hB hV (aYe a), cL cJ hX 1 ot]) ⟨hx, hb, hml, hown, hts⟩ (c_X1_endNight l D cI cZ cJ _ hT hB hV a h1) (cwV 0 hts gL_endNight_X1_endNight rfl rfl rfl (by decide +kernel) ⟨Nat.le_of_ble_eq_true rfl, Nat.le_of_ble_eq_true rfl⟩) hP hD hK hN hS hA (va_recv hK hP (ci := 1) (q0 := 0) rfl rfl) rfl hl.1 rfl (Nat.le_of_ble_eq_true rfl) dL_endNight_3 ⟨Nat.le_of_ble_eq_true rfl, Nat.le_of_ble_eq_true rfl⟩ [0] [1] rfl rfl rfl (by intro i hi; simp only [List.mem_cons, List.not_mem_nil, or_false] at hi; rcases hi with rfl <;> rfl) rfl 2 rfl (by decide) (by decide) (fun H locs hP hD hS => ?_)
  refine lv_i2l (v := ((xDead a)).toInt64) hx hb dL_endNight_6 rfl ?_
  refine q_last (D := D) hx hb hK hP hD hS 1 2 rfl rfl dL_endNight_7 (fun H locs hP hD hS => ?_)
  have hP : va_P D vwCl [cT hT hB hV (aYe a), cL cJ hX 1 (vp_updL ot 0 (((xDead a)).toInt64))] H := hP
  have hD : va_D A [cT hT hB hV (aYe a), cL cJ hX 1 (vp_updL ot 0 (((xDead a)).toInt64))] := hD
  refine lv_goto (tgt := 14) hx hb dL_endNight_8 (by decide) ?_
  refine lv_iconst (v := 0) hx hb dL_endNight_14 (by decide) ?_
  have hP9 : va_P D vwCl [cT hT hB hV (aYe a), cL cJ hX 1 (vp_updL ot 0 (xDead a).toInt64)] H := by
    have e9_0 : (vp_updL ot 0 (xDead a).toInt64) = (vp_updL ot 0 (((xDead a)).toInt64)) := by (first | rfl | (simp only [bI]; rfl))
    rw [e9_0]
    exact hP
  exact mi_iret hx hb hr hlocks hS (by rfl) hP9 dL_endNight_15

set_option maxHeartbeats 2000000 in
set_option maxRecDepth 100000 in
theorem f_L_endNight (l : Launch) (D : va_G) (cI cZ cJ : ClassId) (sz : Nat) (hst : l.stackTraces = false) (hT : Nat) (hB : Nat) (hV : Nat) (a : Nat → Int32) (hX : Nat) (ot : Nat → Int64) (hk : ¬ kYh a 2 = 0) : Mx l D cI cZ cJ yL_endNight wsL_endNight 8 132 sz [.ref hT, .ref hX] [cT hT hB hV a, cL cJ hX 1 ot] (kYh a 2) := by
  refine mx_ofH (by decide) rfl (Nat.le_of_ble_eq_true rfl) (fun p e s m below meth c ls A hx hb hr hml hts hown hlocks htab hP hK hN hD hA hS hZ hY hXn hl => ?_)
  have hl : lv_has ls 3 [(0, .ref hT), (1, .ref hX)] := hl
  refine lv_aload_n hx hb dL_endNight_0 rfl (lv_at hl 1 rfl) ?_
  refine lv_iconst (v := 0) hx hb dL_endNight_1 (by decide) ?_
  refine lv_aload_n hx hb dL_endNight_2 rfl (lv_at hl 0 rfl) ?_
  refine xc_V (b := hT) (As := []) (rest := [.int 0, .ref hX]) ⟨hx, hb, hml, hown, hts⟩ (t_X1_endNight l D cI cZ cJ _ hst hT hB hV a hk) (cwV 0 hts gL_endNight_X1_endNight rfl rfl rfl (by decide +kernel) ⟨Nat.le_of_ble_eq_true rfl, Nat.le_of_ble_eq_true rfl⟩) hP hD hK hN hY hS hA hZ (va_recv hK hP (ci := 1) (q0 := 0) rfl rfl) rfl hl.1 rfl (Nat.le_of_ble_eq_true rfl) dL_endNight_3 ⟨Nat.le_of_ble_eq_true rfl, Nat.le_of_ble_eq_true rfl⟩ [0] [1] rfl rfl 2 rfl (by decide) (by decide) (fun H locs qe ce hP hD hS hq1 hq2 hq3 => ?_)
  have hv9 : kYh a 2 = 0 ∨ kYh a 2 = 1 := kYh_in _ _
  rcases hv9 with h9 | h9
  · exact absurd h9 hk
  · rw [h9] at hq3
    refine vx_catch (E := "java/lang/IllegalStateException") (name := "java/lang/IllegalStateException") hown [] ⟨0, 8, 11, 19⟩ [] htab (fun _ h => nomatch h) (by decide) (by decide) (hts (.classLink RL 19 "java/lang/IllegalStateException") (List.mem_of_getElem? (i := 1) rfl)) (va_Nw.use rfl (hN.2.2 _ (List.mem_of_getElem? (i := 0) rfl))) hq1 hq2 hq3 ?_
    refine lv_astore_n (lv' := [(2, .ref qe), (0, .ref hT), (1, .ref hX)]) hx hb dL_endNight_11 rfl hl (by decide) rfl (fun ls hl => ?_)
    refine lv_iconst (v := 1) hx hb dL_endNight_12 (by decide) ?_
    exact mx_iret hx hb hr hlocks hS h9.symm hP dL_endNight_13

theorem in_L_day_X1 : ∀ w ∈ wsX10, w ∈ wsL_day := by decide +kernel
set_option maxHeartbeats 2000000 in
set_option maxRecDepth 100000 in
theorem c_L_day (l : Launch) (D : va_G) (cI cZ cJ : ClassId) (sz : Nat) (hT : Nat) (hB : Nat) (hV : Nat) (a : Nat → Int32) (hX : Nat) (ot : Nat → Int64) (h1 : ¬ a 0 = 0) : Mi l D cI cZ cJ yL_day wsL_day 2 40 sz [.ref hT, .ref hX] [cT hT hB hV a, cL cJ hX 1 ot] [cT hT hB hV a, cL cJ hX 1 (vp_updL ot 0 (a 1).toInt64)] (0) := by
  refine mi_ofH (by decide) rfl (Nat.le_of_ble_eq_true rfl) (fun p e s m below meth c ls A hx hb hr hml hts hown hlocks hP hK hN hD hA hS hl => ?_)
  have hl : lv_has ls 3 [(0, .ref hT), (1, .ref hX)] := hl
  refine lv_aload_n hx hb dL_day_0 rfl (lv_at hl 1 rfl) ?_
  refine lv_iconst (v := 0) hx hb dL_day_1 (by decide) ?_
  refine lv_aload_n hx hb dL_day_2 rfl (lv_at hl 0 rfl) ?_
  refine rd_V (b := hT) (As := []) (rest := [.int 0, .ref hX]) ⟨hx, hb, hml, hown, hts⟩ (c_X1_day l D cI cZ cJ hT hB hV a h1) (cwV 0 hts gL_day_X1_day rfl rfl rfl (by decide +kernel) ⟨Nat.le_of_ble_eq_true rfl, Nat.le_of_ble_eq_true rfl⟩) (hP.sub (ws' := [cT hT hB hV a]) [0] rfl) hK hN (va_recv hK hP (ci := 1) (q0 := 0) rfl rfl) rfl hl.1 rfl (Nat.le_of_ble_eq_true rfl) dL_day_3 ⟨Nat.le_of_ble_eq_true rfl, Nat.le_of_ble_eq_true rfl⟩ ?_
  refine lv_i2l (v := ((a 1)).toInt64) hx hb dL_day_6 rfl ?_
  refine q_last (D := D) hx hb hK hP hD hS 1 2 rfl rfl dL_day_7 (fun H locs hP hD hS => ?_)
  have hP : va_P D vwCl [cT hT hB hV a, cL cJ hX 1 (vp_updL ot 0 (((a 1)).toInt64))] H := hP
  have hD : va_D A [cT hT hB hV a, cL cJ hX 1 (vp_updL ot 0 (((a 1)).toInt64))] := hD
  refine lv_goto (tgt := 14) hx hb dL_day_8 (by decide) ?_
  refine lv_iconst (v := 0) hx hb dL_day_14 (by decide) ?_
  have hP9 : va_P D vwCl [cT hT hB hV a, cL cJ hX 1 (vp_updL ot 0 (a 1).toInt64)] H := by
    have e9_0 : (vp_updL ot 0 (a 1).toInt64) = (vp_updL ot 0 (((a 1)).toInt64)) := by (first | rfl | (simp only [bI]; rfl))
    rw [e9_0]
    exact hP
  exact mi_iret hx hb hr hlocks hS (by rfl) hP9 dL_day_15

set_option maxHeartbeats 2000000 in
set_option maxRecDepth 100000 in
theorem f_L_day (l : Launch) (D : va_G) (cI cZ cJ : ClassId) (sz : Nat) (hst : l.stackTraces = false) (hT : Nat) (hB : Nat) (hV : Nat) (a : Nat → Int32) (hX : Nat) (ot : Nat → Int64) (hk : ¬ kYg a = 0) : Mx l D cI cZ cJ yL_day wsL_day 8 130 sz [.ref hT, .ref hX] [cT hT hB hV a, cL cJ hX 1 ot] (kYg a) := by
  refine mx_ofH (by decide) rfl (Nat.le_of_ble_eq_true rfl) (fun p e s m below meth c ls A hx hb hr hml hts hown hlocks htab hP hK hN hD hA hS hZ hY hXn hl => ?_)
  have hl : lv_has ls 3 [(0, .ref hT), (1, .ref hX)] := hl
  refine lv_aload_n hx hb dL_day_0 rfl (lv_at hl 1 rfl) ?_
  refine lv_iconst (v := 0) hx hb dL_day_1 (by decide) ?_
  refine lv_aload_n hx hb dL_day_2 rfl (lv_at hl 0 rfl) ?_
  refine xc_V (b := hT) (As := []) (rest := [.int 0, .ref hX]) ⟨hx, hb, hml, hown, hts⟩ (t_X1_day l D cI cZ cJ _ hst hT hB hV a hk) (cwV 0 hts gL_day_X1_day rfl rfl rfl (by decide +kernel) ⟨Nat.le_of_ble_eq_true rfl, Nat.le_of_ble_eq_true rfl⟩) hP hD hK hN hY hS hA hZ (va_recv hK hP (ci := 1) (q0 := 0) rfl rfl) rfl hl.1 rfl (Nat.le_of_ble_eq_true rfl) dL_day_3 ⟨Nat.le_of_ble_eq_true rfl, Nat.le_of_ble_eq_true rfl⟩ [0] [1] rfl rfl 2 rfl (by decide) (by decide) (fun H locs qe ce hP hD hS hq1 hq2 hq3 => ?_)
  have hv9 : kYg a = 0 ∨ kYg a = 1 := kYg_in _
  rcases hv9 with h9 | h9
  · exact absurd h9 hk
  · rw [h9] at hq3
    refine vx_catch (E := "java/lang/IllegalStateException") (name := "java/lang/IllegalStateException") hown [] ⟨0, 8, 11, 19⟩ [] htab (fun _ h => nomatch h) (by decide) (by decide) (hts (.classLink RL 19 "java/lang/IllegalStateException") (List.mem_of_getElem? (i := 1) rfl)) (va_Nw.use rfl (hN.2.2 _ (List.mem_of_getElem? (i := 0) rfl))) hq1 hq2 hq3 ?_
    refine lv_astore_n (lv' := [(2, .ref qe), (0, .ref hT), (1, .ref hX)]) hx hb dL_day_11 rfl hl (by decide) rfl (fun ls hl => ?_)
    refine lv_iconst (v := 1) hx hb dL_day_12 (by decide) ?_
    exact mx_iret hx hb hr hlocks hS h9.symm hP dL_day_13

theorem in_L_alive_X1 : ∀ w ∈ wsX10, w ∈ wsL_alive := by decide +kernel
set_option maxHeartbeats 2000000 in
set_option maxRecDepth 100000 in
theorem c_L_alive (l : Launch) (D : va_G) (cI cZ cJ : ClassId) (sz : Nat) (hT : Nat) (hB : Nat) (hV : Nat) (a : Nat → Int32) (hX : Nat) (ot : Nat → Int64) (h1 : ¬ a 0 = 0) : Mi l D cI cZ cJ yL_alive wsL_alive 2 40 sz [.ref hT, .ref hX] [cT hT hB hV a, cL cJ hX 1 ot] [cT hT hB hV a, cL cJ hX 1 (vp_updL ot 0 (a 6).toInt64)] (0) := by
  refine mi_ofH (by decide) rfl (Nat.le_of_ble_eq_true rfl) (fun p e s m below meth c ls A hx hb hr hml hts hown hlocks hP hK hN hD hA hS hl => ?_)
  have hl : lv_has ls 3 [(0, .ref hT), (1, .ref hX)] := hl
  refine lv_aload_n hx hb dL_alive_0 rfl (lv_at hl 1 rfl) ?_
  refine lv_iconst (v := 0) hx hb dL_alive_1 (by decide) ?_
  refine lv_aload_n hx hb dL_alive_2 rfl (lv_at hl 0 rfl) ?_
  refine rd_V (b := hT) (As := []) (rest := [.int 0, .ref hX]) ⟨hx, hb, hml, hown, hts⟩ (c_X1_alive l D cI cZ cJ hT hB hV a h1) (cwV 0 hts gL_alive_X1_alive rfl rfl rfl (by decide +kernel) ⟨Nat.le_of_ble_eq_true rfl, Nat.le_of_ble_eq_true rfl⟩) (hP.sub (ws' := [cT hT hB hV a]) [0] rfl) hK hN (va_recv hK hP (ci := 1) (q0 := 0) rfl rfl) rfl hl.1 rfl (Nat.le_of_ble_eq_true rfl) dL_alive_3 ⟨Nat.le_of_ble_eq_true rfl, Nat.le_of_ble_eq_true rfl⟩ ?_
  refine lv_i2l (v := ((a 6)).toInt64) hx hb dL_alive_6 rfl ?_
  refine q_last (D := D) hx hb hK hP hD hS 1 2 rfl rfl dL_alive_7 (fun H locs hP hD hS => ?_)
  have hP : va_P D vwCl [cT hT hB hV a, cL cJ hX 1 (vp_updL ot 0 (((a 6)).toInt64))] H := hP
  have hD : va_D A [cT hT hB hV a, cL cJ hX 1 (vp_updL ot 0 (((a 6)).toInt64))] := hD
  refine lv_goto (tgt := 14) hx hb dL_alive_8 (by decide) ?_
  refine lv_iconst (v := 0) hx hb dL_alive_14 (by decide) ?_
  have hP9 : va_P D vwCl [cT hT hB hV a, cL cJ hX 1 (vp_updL ot 0 (a 6).toInt64)] H := by
    have e9_0 : (vp_updL ot 0 (a 6).toInt64) = (vp_updL ot 0 (((a 6)).toInt64)) := by (first | rfl | (simp only [bI]; rfl))
    rw [e9_0]
    exact hP
  exact mi_iret hx hb hr hlocks hS (by rfl) hP9 dL_alive_15

set_option maxHeartbeats 2000000 in
set_option maxRecDepth 100000 in
theorem f_L_alive (l : Launch) (D : va_G) (cI cZ cJ : ClassId) (sz : Nat) (hst : l.stackTraces = false) (hT : Nat) (hB : Nat) (hV : Nat) (a : Nat → Int32) (hX : Nat) (ot : Nat → Int64) (hk : ¬ kYg a = 0) : Mx l D cI cZ cJ yL_alive wsL_alive 8 130 sz [.ref hT, .ref hX] [cT hT hB hV a, cL cJ hX 1 ot] (kYg a) := by
  refine mx_ofH (by decide) rfl (Nat.le_of_ble_eq_true rfl) (fun p e s m below meth c ls A hx hb hr hml hts hown hlocks htab hP hK hN hD hA hS hZ hY hXn hl => ?_)
  have hl : lv_has ls 3 [(0, .ref hT), (1, .ref hX)] := hl
  refine lv_aload_n hx hb dL_alive_0 rfl (lv_at hl 1 rfl) ?_
  refine lv_iconst (v := 0) hx hb dL_alive_1 (by decide) ?_
  refine lv_aload_n hx hb dL_alive_2 rfl (lv_at hl 0 rfl) ?_
  refine xc_V (b := hT) (As := []) (rest := [.int 0, .ref hX]) ⟨hx, hb, hml, hown, hts⟩ (t_X1_alive l D cI cZ cJ _ hst hT hB hV a hk) (cwV 0 hts gL_alive_X1_alive rfl rfl rfl (by decide +kernel) ⟨Nat.le_of_ble_eq_true rfl, Nat.le_of_ble_eq_true rfl⟩) hP hD hK hN hY hS hA hZ (va_recv hK hP (ci := 1) (q0 := 0) rfl rfl) rfl hl.1 rfl (Nat.le_of_ble_eq_true rfl) dL_alive_3 ⟨Nat.le_of_ble_eq_true rfl, Nat.le_of_ble_eq_true rfl⟩ [0] [1] rfl rfl 2 rfl (by decide) (by decide) (fun H locs qe ce hP hD hS hq1 hq2 hq3 => ?_)
  have hv9 : kYg a = 0 ∨ kYg a = 1 := kYg_in _
  rcases hv9 with h9 | h9
  · exact absurd h9 hk
  · rw [h9] at hq3
    refine vx_catch (E := "java/lang/IllegalStateException") (name := "java/lang/IllegalStateException") hown [] ⟨0, 8, 11, 19⟩ [] htab (fun _ h => nomatch h) (by decide) (by decide) (hts (.classLink RL 19 "java/lang/IllegalStateException") (List.mem_of_getElem? (i := 1) rfl)) (va_Nw.use rfl (hN.2.2 _ (List.mem_of_getElem? (i := 0) rfl))) hq1 hq2 hq3 ?_
    refine lv_astore_n (lv' := [(2, .ref qe), (0, .ref hT), (1, .ref hX)]) hx hb dL_alive_11 rfl hl (by decide) rfl (fun ls hl => ?_)
    refine lv_iconst (v := 1) hx hb dL_alive_12 (by decide) ?_
    exact mx_iret hx hb hr hlocks hS h9.symm hP dL_alive_13

theorem in_L_lookedAt_X1 : ∀ w ∈ wsX10, w ∈ wsL_lookedAt := by decide +kernel
set_option maxHeartbeats 2000000 in
set_option maxRecDepth 100000 in
theorem c_L_lookedAt (l : Launch) (D : va_G) (cI cZ cJ : ClassId) (sz : Nat) (hT : Nat) (hB : Nat) (hV : Nat) (a : Nat → Int32) (hX : Nat) (ot : Nat → Int64) (h1 : ¬ a 0 = 0) : Mi l D cI cZ cJ yL_lookedAt wsL_lookedAt 2 40 sz [.ref hT, .ref hX] [cT hT hB hV a, cL cJ hX 1 ot] [cT hT hB hV a, cL cJ hX 1 (vp_updL ot 0 (a 7).toInt64)] (0) := by
  refine mi_ofH (by decide) rfl (Nat.le_of_ble_eq_true rfl) (fun p e s m below meth c ls A hx hb hr hml hts hown hlocks hP hK hN hD hA hS hl => ?_)
  have hl : lv_has ls 3 [(0, .ref hT), (1, .ref hX)] := hl
  refine lv_aload_n hx hb dL_lookedAt_0 rfl (lv_at hl 1 rfl) ?_
  refine lv_iconst (v := 0) hx hb dL_lookedAt_1 (by decide) ?_
  refine lv_aload_n hx hb dL_lookedAt_2 rfl (lv_at hl 0 rfl) ?_
  refine rd_V (b := hT) (As := []) (rest := [.int 0, .ref hX]) ⟨hx, hb, hml, hown, hts⟩ (c_X1_lookedAt l D cI cZ cJ hT hB hV a h1) (cwV 0 hts gL_lookedAt_X1_lookedAt rfl rfl rfl (by decide +kernel) ⟨Nat.le_of_ble_eq_true rfl, Nat.le_of_ble_eq_true rfl⟩) (hP.sub (ws' := [cT hT hB hV a]) [0] rfl) hK hN (va_recv hK hP (ci := 1) (q0 := 0) rfl rfl) rfl hl.1 rfl (Nat.le_of_ble_eq_true rfl) dL_lookedAt_3 ⟨Nat.le_of_ble_eq_true rfl, Nat.le_of_ble_eq_true rfl⟩ ?_
  refine lv_i2l (v := ((a 7)).toInt64) hx hb dL_lookedAt_6 rfl ?_
  refine q_last (D := D) hx hb hK hP hD hS 1 2 rfl rfl dL_lookedAt_7 (fun H locs hP hD hS => ?_)
  have hP : va_P D vwCl [cT hT hB hV a, cL cJ hX 1 (vp_updL ot 0 (((a 7)).toInt64))] H := hP
  have hD : va_D A [cT hT hB hV a, cL cJ hX 1 (vp_updL ot 0 (((a 7)).toInt64))] := hD
  refine lv_goto (tgt := 14) hx hb dL_lookedAt_8 (by decide) ?_
  refine lv_iconst (v := 0) hx hb dL_lookedAt_14 (by decide) ?_
  have hP9 : va_P D vwCl [cT hT hB hV a, cL cJ hX 1 (vp_updL ot 0 (a 7).toInt64)] H := by
    have e9_0 : (vp_updL ot 0 (a 7).toInt64) = (vp_updL ot 0 (((a 7)).toInt64)) := by (first | rfl | (simp only [bI]; rfl))
    rw [e9_0]
    exact hP
  exact mi_iret hx hb hr hlocks hS (by rfl) hP9 dL_lookedAt_15

set_option maxHeartbeats 2000000 in
set_option maxRecDepth 100000 in
theorem f_L_lookedAt (l : Launch) (D : va_G) (cI cZ cJ : ClassId) (sz : Nat) (hst : l.stackTraces = false) (hT : Nat) (hB : Nat) (hV : Nat) (a : Nat → Int32) (hX : Nat) (ot : Nat → Int64) (hk : ¬ kYg a = 0) : Mx l D cI cZ cJ yL_lookedAt wsL_lookedAt 8 130 sz [.ref hT, .ref hX] [cT hT hB hV a, cL cJ hX 1 ot] (kYg a) := by
  refine mx_ofH (by decide) rfl (Nat.le_of_ble_eq_true rfl) (fun p e s m below meth c ls A hx hb hr hml hts hown hlocks htab hP hK hN hD hA hS hZ hY hXn hl => ?_)
  have hl : lv_has ls 3 [(0, .ref hT), (1, .ref hX)] := hl
  refine lv_aload_n hx hb dL_lookedAt_0 rfl (lv_at hl 1 rfl) ?_
  refine lv_iconst (v := 0) hx hb dL_lookedAt_1 (by decide) ?_
  refine lv_aload_n hx hb dL_lookedAt_2 rfl (lv_at hl 0 rfl) ?_
  refine xc_V (b := hT) (As := []) (rest := [.int 0, .ref hX]) ⟨hx, hb, hml, hown, hts⟩ (t_X1_lookedAt l D cI cZ cJ _ hst hT hB hV a hk) (cwV 0 hts gL_lookedAt_X1_lookedAt rfl rfl rfl (by decide +kernel) ⟨Nat.le_of_ble_eq_true rfl, Nat.le_of_ble_eq_true rfl⟩) hP hD hK hN hY hS hA hZ (va_recv hK hP (ci := 1) (q0 := 0) rfl rfl) rfl hl.1 rfl (Nat.le_of_ble_eq_true rfl) dL_lookedAt_3 ⟨Nat.le_of_ble_eq_true rfl, Nat.le_of_ble_eq_true rfl⟩ [0] [1] rfl rfl 2 rfl (by decide) (by decide) (fun H locs qe ce hP hD hS hq1 hq2 hq3 => ?_)
  have hv9 : kYg a = 0 ∨ kYg a = 1 := kYg_in _
  rcases hv9 with h9 | h9
  · exact absurd h9 hk
  · rw [h9] at hq3
    refine vx_catch (E := "java/lang/IllegalStateException") (name := "java/lang/IllegalStateException") hown [] ⟨0, 8, 11, 19⟩ [] htab (fun _ h => nomatch h) (by decide) (by decide) (hts (.classLink RL 19 "java/lang/IllegalStateException") (List.mem_of_getElem? (i := 1) rfl)) (va_Nw.use rfl (hN.2.2 _ (List.mem_of_getElem? (i := 0) rfl))) hq1 hq2 hq3 ?_
    refine lv_astore_n (lv' := [(2, .ref qe), (0, .ref hT), (1, .ref hX)]) hx hb dL_lookedAt_11 rfl hl (by decide) rfl (fun ls hl => ?_)
    refine lv_iconst (v := 1) hx hb dL_lookedAt_12 (by decide) ?_
    exact mx_iret hx hb hr hlocks hS h9.symm hP dL_lookedAt_13

theorem in_L_votesFor_X1 : ∀ w ∈ wsX10, w ∈ wsL_votesFor := by decide +kernel
set_option maxHeartbeats 2000000 in
set_option maxRecDepth 100000 in
theorem c_L_votesFor (l : Launch) (D : va_G) (cI cZ cJ : ClassId) (sz : Nat) (hT : Nat) (hB : Nat) (hV : Nat) (a : Nat → Int32) (v : Nat → Int32) (hX : Nat) (ot : Nat → Int64) (q : Int32) (h1 : ¬ a 0 = 0) (h2 : yPl a q = true) : Mi l D cI cZ cJ yL_votesFor wsL_votesFor 2 47 sz [.ref hT, .int q, .ref hX] [cT hT hB hV a, cA cI hV 8 v, cL cJ hX 1 ot] [cT hT hB hV a, cA cI hV 8 v, cL cJ hX 1 (vp_updL ot 0 (xMv v q 8).toInt64)] (0) := by
  refine mi_ofH (by decide) rfl (Nat.le_of_ble_eq_true rfl) (fun p e s m below meth c ls A hx hb hr hml hts hown hlocks hP hK hN hD hA hS hl => ?_)
  have hl : lv_has ls 4 [(0, .ref hT), (1, .int q), (2, .ref hX)] := hl
  refine lv_aload_n hx hb dL_votesFor_0 rfl (lv_at hl 2 rfl) ?_
  refine lv_iconst (v := 0) hx hb dL_votesFor_1 (by decide) ?_
  refine lv_aload_n hx hb dL_votesFor_2 rfl (lv_at hl 0 rfl) ?_
  refine lv_iload_n hx hb dL_votesFor_3 rfl (lv_at hl 1 rfl) ?_
  refine rd_V (b := hT) (As := [.int q]) (rest := [.int 0, .ref hX]) ⟨hx, hb, hml, hown, hts⟩ (c_X1_votesFor l D cI cZ cJ hT hB hV a v q h1 h2) (cwV 1 hts gL_votesFor_X1_votesFor rfl rfl rfl (by decide +kernel) ⟨Nat.le_of_ble_eq_true rfl, Nat.le_of_ble_eq_true rfl⟩) (hP.sub (ws' := [cT hT hB hV a, cA cI hV 8 v]) [0, 1] rfl) hK hN (va_recv hK hP (ci := 1) (q0 := 0) rfl rfl) rfl hl.1 rfl (Nat.le_of_ble_eq_true rfl) dL_votesFor_4 ⟨Nat.le_of_ble_eq_true rfl, Nat.le_of_ble_eq_true rfl⟩ ?_
  refine lv_i2l (v := ((xMv v q 8)).toInt64) hx hb dL_votesFor_7 rfl ?_
  refine q_last (D := D) hx hb hK hP hD hS 2 2 rfl rfl dL_votesFor_8 (fun H locs hP hD hS => ?_)
  have hP : va_P D vwCl [cT hT hB hV a, cA cI hV 8 v, cL cJ hX 1 (vp_updL ot 0 (((xMv v q 8)).toInt64))] H := hP
  have hD : va_D A [cT hT hB hV a, cA cI hV 8 v, cL cJ hX 1 (vp_updL ot 0 (((xMv v q 8)).toInt64))] := hD
  refine lv_goto (tgt := 18) hx hb dL_votesFor_9 (by decide) ?_
  refine lv_iconst (v := 0) hx hb dL_votesFor_18 (by decide) ?_
  have hP9 : va_P D vwCl [cT hT hB hV a, cA cI hV 8 v, cL cJ hX 1 (vp_updL ot 0 (xMv v q 8).toInt64)] H := by
    have e9_0 : (vp_updL ot 0 (xMv v q 8).toInt64) = (vp_updL ot 0 (((xMv v q 8)).toInt64)) := by (first | rfl | (simp only [bI]; rfl))
    rw [e9_0]
    exact hP
  exact mi_iret hx hb hr hlocks hS (by rfl) hP9 dL_votesFor_19

set_option maxHeartbeats 2000000 in
set_option maxRecDepth 100000 in
theorem f_L_votesFor (l : Launch) (D : va_G) (cI cZ cJ : ClassId) (sz : Nat) (hst : l.stackTraces = false) (hT : Nat) (hB : Nat) (hV : Nat) (a : Nat → Int32) (hX : Nat) (ot : Nat → Int64) (q : Int32) (hk : ¬ kYo a q = 0) : Mx l D cI cZ cJ yL_votesFor wsL_votesFor 8 132 sz [.ref hT, .int q, .ref hX] [cT hT hB hV a, cL cJ hX 1 ot] (kYo a q) := by
  refine mx_ofH (by decide) rfl (Nat.le_of_ble_eq_true rfl) (fun p e s m below meth c ls A hx hb hr hml hts hown hlocks htab hP hK hN hD hA hS hZ hY hXn hl => ?_)
  have hl : lv_has ls 4 [(0, .ref hT), (1, .int q), (2, .ref hX)] := hl
  refine lv_aload_n hx hb dL_votesFor_0 rfl (lv_at hl 2 rfl) ?_
  refine lv_iconst (v := 0) hx hb dL_votesFor_1 (by decide) ?_
  refine lv_aload_n hx hb dL_votesFor_2 rfl (lv_at hl 0 rfl) ?_
  refine lv_iload_n hx hb dL_votesFor_3 rfl (lv_at hl 1 rfl) ?_
  refine xc_V (b := hT) (As := [.int q]) (rest := [.int 0, .ref hX]) ⟨hx, hb, hml, hown, hts⟩ (t_X1_votesFor l D cI cZ cJ _ hst hT hB hV a q hk) (cwV 1 hts gL_votesFor_X1_votesFor rfl rfl rfl (by decide +kernel) ⟨Nat.le_of_ble_eq_true rfl, Nat.le_of_ble_eq_true rfl⟩) hP hD hK hN hY hS hA hZ (va_recv hK hP (ci := 1) (q0 := 0) rfl rfl) rfl hl.1 rfl (Nat.le_of_ble_eq_true rfl) dL_votesFor_4 ⟨Nat.le_of_ble_eq_true rfl, Nat.le_of_ble_eq_true rfl⟩ [0] [1] rfl rfl 2 rfl (by decide) (by decide) (fun H locs qe ce hP hD hS hq1 hq2 hq3 => ?_)
  have hv9 : kYo a q = 0 ∨ kYo a q = 1 ∨ kYo a q = 2 := kYo_in _ _
  rcases hv9 with h9 | h9 | h9
  · exact absurd h9 hk
  · rw [h9] at hq3
    refine vx_catch (E := "java/lang/IllegalStateException") (name := "java/lang/IllegalStateException") hown [] ⟨0, 9, 12, 19⟩ [⟨0, 9, 15, 21⟩] htab (fun _ h => nomatch h) (by decide) (by decide) (hts (.classLink RL 19 "java/lang/IllegalStateException") (List.mem_of_getElem? (i := 1) rfl)) (va_Nw.use rfl (hN.2.2 _ (List.mem_of_getElem? (i := 0) rfl))) hq1 hq2 hq3 ?_
    refine lv_astore_n (lv' := [(3, .ref qe), (0, .ref hT), (1, .int q), (2, .ref hX)]) hx hb dL_votesFor_12 rfl hl (by decide) rfl (fun ls hl => ?_)
    refine lv_iconst (v := 1) hx hb dL_votesFor_13 (by decide) ?_
    exact mx_iret hx hb hr hlocks hS h9.symm hP dL_votesFor_14
  · rw [h9] at hq3
    refine vx_catch (E := "java/lang/IndexOutOfBoundsException") (name := "java/lang/IndexOutOfBoundsException") hown [⟨0, 9, 12, 19⟩] ⟨0, 9, 15, 21⟩ [] htab (List.forall_mem_cons.mpr ⟨Or.inr ⟨by decide, "java/lang/IllegalStateException", (hts (.classLink RL 19 "java/lang/IllegalStateException") (List.mem_of_getElem? (i := 1) rfl)), hXn.at 3 rfl⟩, (fun _ h => nomatch h)⟩) (by decide) (by decide) (hts (.classLink RL 21 "java/lang/IndexOutOfBoundsException") (List.mem_of_getElem? (i := 2) rfl)) (va_Nw.use rfl (hN.2.2 _ (List.mem_of_getElem? (i := 1) rfl))) hq1 hq2 hq3 ?_
    refine lv_astore_n (lv' := [(3, .ref qe), (0, .ref hT), (1, .int q), (2, .ref hX)]) hx hb dL_votesFor_15 rfl hl (by decide) rfl (fun ls hl => ?_)
    refine lv_iconst (v := 2) hx hb dL_votesFor_16 (by decide) ?_
    exact mx_iret hx hb hr hlocks hS h9.symm hP dL_votesFor_17

theorem in_L_worlds_X0 : ∀ w ∈ wsX00, w ∈ wsL_worlds := by decide +kernel
theorem in_L_worlds_X1 : ∀ w ∈ wsX10, w ∈ wsL_worlds := by decide +kernel
set_option maxHeartbeats 2000000 in
set_option maxRecDepth 100000 in
theorem c_L_worlds (l : Launch) (D : va_G) (cI cZ cJ : ClassId) (sz : Nat) (hT : Nat) (hB : Nat) (hV : Nat) (a : Nat → Int32) (hG : Nat) (tr : Int32) (g : Nat → Int32) (hX : Nat) (ot : Nat → Int64) (q : Int32) (K : Nat) (hK9 : K ≤ 1120) (hg : ∀ j, j < K → ¬ g j = 0) (hz : K < 1120 → g K = 0) (h1 : ¬ a 0 = 0) (h2 : yVw a q = true) : Mi l D cI cZ cJ yL_worlds wsL_worlds 4 84 sz [.ref hT, .int q, .ref hX] [cT hT hB hV a, cB hB hG tr, cA cI hG 1120 g, cL cJ hX 1 ot] [cT hT hB hV a, cB hB hG tr, cA cI hG 1120 g, cL cJ hX 1 (vp_updL ot 0 (xCnt (pAg g tr (yKn a q)) K).toInt64)] (0) := by
  refine mi_ofH (by decide) rfl (Nat.le_of_ble_eq_true rfl) (fun p e s m below meth c ls A hx hb hr hml hts hown hlocks hP hK hN hD hA hS hl => ?_)
  have hl : lv_has ls 4 [(0, .ref hT), (1, .int q), (2, .ref hX)] := hl
  refine lv_aload_n hx hb dL_worlds_0 rfl (lv_at hl 2 rfl) ?_
  refine lv_iconst (v := 0) hx hb dL_worlds_1 (by decide) ?_
  refine lv_aload_n hx hb dL_worlds_2 rfl (lv_at hl 0 rfl) ?_
  refine lv_iload_n hx hb dL_worlds_3 rfl (lv_at hl 1 rfl) ?_
  refine rd_V (b := hT) (As := [.int q]) (rest := [.int 0, .ref hX]) ⟨hx, hb, hml, hown, hts⟩ (c_X1_worlds l D cI cZ cJ hT hB hV a hG tr g q K hK9 hg hz h1 h2) (cwV 1 hts gL_worlds_X1_worlds rfl rfl rfl (by decide +kernel) ⟨Nat.le_of_ble_eq_true rfl, Nat.le_of_ble_eq_true rfl⟩) (hP.sub (ws' := [cT hT hB hV a, cB hB hG tr, cA cI hG 1120 g]) [0, 1, 2] rfl) hK hN (va_recv hK hP (ci := 1) (q0 := 0) rfl rfl) rfl hl.1 rfl (Nat.le_of_ble_eq_true rfl) dL_worlds_4 ⟨Nat.le_of_ble_eq_true rfl, Nat.le_of_ble_eq_true rfl⟩ ?_
  refine lv_i2l (v := ((xCnt (pAg g tr (yKn a q)) K)).toInt64) hx hb dL_worlds_7 rfl ?_
  refine q_last (D := D) hx hb hK hP hD hS 3 2 rfl rfl dL_worlds_8 (fun H locs hP hD hS => ?_)
  have hP : va_P D vwCl [cT hT hB hV a, cB hB hG tr, cA cI hG 1120 g, cL cJ hX 1 (vp_updL ot 0 (((xCnt (pAg g tr (yKn a q)) K)).toInt64))] H := hP
  have hD : va_D A [cT hT hB hV a, cB hB hG tr, cA cI hG 1120 g, cL cJ hX 1 (vp_updL ot 0 (((xCnt (pAg g tr (yKn a q)) K)).toInt64))] := hD
  refine lv_goto (tgt := 18) hx hb dL_worlds_9 (by decide) ?_
  refine lv_iconst (v := 0) hx hb dL_worlds_18 (by decide) ?_
  have hP9 : va_P D vwCl [cT hT hB hV a, cB hB hG tr, cA cI hG 1120 g, cL cJ hX 1 (vp_updL ot 0 (xCnt (pAg g tr (yKn a q)) K).toInt64)] H := by
    have e9_0 : (vp_updL ot 0 (xCnt (pAg g tr (yKn a q)) K).toInt64) = (vp_updL ot 0 (((xCnt (pAg g tr (yKn a q)) K)).toInt64)) := by (first | rfl | (simp only [bI]; rfl))
    rw [e9_0]
    exact hP
  exact mi_iret hx hb hr hlocks hS (by rfl) hP9 dL_worlds_19

set_option maxHeartbeats 2000000 in
set_option maxRecDepth 100000 in
theorem f_L_worlds (l : Launch) (D : va_G) (cI cZ cJ : ClassId) (sz : Nat) (hst : l.stackTraces = false) (hT : Nat) (hB : Nat) (hV : Nat) (a : Nat → Int32) (hX : Nat) (ot : Nat → Int64) (q : Int32) (hk : ¬ kYw a q = 0) : Mx l D cI cZ cJ yL_worlds wsL_worlds 9 153 sz [.ref hT, .int q, .ref hX] [cT hT hB hV a, cL cJ hX 1 ot] (kYw a q) := by
  refine mx_ofH (by decide) rfl (Nat.le_of_ble_eq_true rfl) (fun p e s m below meth c ls A hx hb hr hml hts hown hlocks htab hP hK hN hD hA hS hZ hY hXn hl => ?_)
  have hl : lv_has ls 4 [(0, .ref hT), (1, .int q), (2, .ref hX)] := hl
  refine lv_aload_n hx hb dL_worlds_0 rfl (lv_at hl 2 rfl) ?_
  refine lv_iconst (v := 0) hx hb dL_worlds_1 (by decide) ?_
  refine lv_aload_n hx hb dL_worlds_2 rfl (lv_at hl 0 rfl) ?_
  refine lv_iload_n hx hb dL_worlds_3 rfl (lv_at hl 1 rfl) ?_
  refine xc_V (b := hT) (As := [.int q]) (rest := [.int 0, .ref hX]) ⟨hx, hb, hml, hown, hts⟩ (t_X1_worlds l D cI cZ cJ _ hst hT hB hV a q hk) (cwV 1 hts gL_worlds_X1_worlds rfl rfl rfl (by decide +kernel) ⟨Nat.le_of_ble_eq_true rfl, Nat.le_of_ble_eq_true rfl⟩) hP hD hK hN hY hS hA hZ (va_recv hK hP (ci := 1) (q0 := 0) rfl rfl) rfl hl.1 rfl (Nat.le_of_ble_eq_true rfl) dL_worlds_4 ⟨Nat.le_of_ble_eq_true rfl, Nat.le_of_ble_eq_true rfl⟩ [0] [1] rfl rfl 2 rfl (by decide) (by decide) (fun H locs qe ce hP hD hS hq1 hq2 hq3 => ?_)
  have hv9 : kYw a q = 0 ∨ kYw a q = 1 ∨ kYw a q = 2 := kYw_in _ _
  rcases hv9 with h9 | h9 | h9
  · exact absurd h9 hk
  · rw [h9] at hq3
    refine vx_catch (E := "java/lang/IllegalStateException") (name := "java/lang/IllegalStateException") hown [] ⟨0, 9, 12, 19⟩ [⟨0, 9, 15, 21⟩] htab (fun _ h => nomatch h) (by decide) (by decide) (hts (.classLink RL 19 "java/lang/IllegalStateException") (List.mem_of_getElem? (i := 1) rfl)) (va_Nw.use rfl (hN.2.2 _ (List.mem_of_getElem? (i := 0) rfl))) hq1 hq2 hq3 ?_
    refine lv_astore_n (lv' := [(3, .ref qe), (0, .ref hT), (1, .int q), (2, .ref hX)]) hx hb dL_worlds_12 rfl hl (by decide) rfl (fun ls hl => ?_)
    refine lv_iconst (v := 1) hx hb dL_worlds_13 (by decide) ?_
    exact mx_iret hx hb hr hlocks hS h9.symm hP dL_worlds_14
  · rw [h9] at hq3
    refine vx_catch (E := "java/lang/IndexOutOfBoundsException") (name := "java/lang/IndexOutOfBoundsException") hown [⟨0, 9, 12, 19⟩] ⟨0, 9, 15, 21⟩ [] htab (List.forall_mem_cons.mpr ⟨Or.inr ⟨by decide, "java/lang/IllegalStateException", (hts (.classLink RL 19 "java/lang/IllegalStateException") (List.mem_of_getElem? (i := 1) rfl)), hXn.at 3 rfl⟩, (fun _ h => nomatch h)⟩) (by decide) (by decide) (hts (.classLink RL 21 "java/lang/IndexOutOfBoundsException") (List.mem_of_getElem? (i := 2) rfl)) (va_Nw.use rfl (hN.2.2 _ (List.mem_of_getElem? (i := 1) rfl))) hq1 hq2 hq3 ?_
    refine lv_astore_n (lv' := [(3, .ref qe), (0, .ref hT), (1, .int q), (2, .ref hX)]) hx hb dL_worlds_15 rfl hl (by decide) rfl (fun ls hl => ?_)
    refine lv_iconst (v := 2) hx hb dL_worlds_16 (by decide) ?_
    exact mx_iret hx hb hr hlocks hS h9.symm hP dL_worlds_17

theorem in_L_worldsWith_X0 : ∀ w ∈ wsX00, w ∈ wsL_worldsWith := by decide +kernel
theorem in_L_worldsWith_X1 : ∀ w ∈ wsX10, w ∈ wsL_worldsWith := by decide +kernel
set_option maxHeartbeats 2000000 in
set_option maxRecDepth 100000 in
theorem c_L_worldsWith (l : Launch) (D : va_G) (cI cZ cJ : ClassId) (sz : Nat) (hT : Nat) (hB : Nat) (hV : Nat) (a : Nat → Int32) (hG : Nat) (tr : Int32) (g : Nat → Int32) (hX : Nat) (ot : Nat → Int64) (q : Int32) (r : Int32) (k : Int32) (K : Nat) (hK9 : K ≤ 1120) (hg : ∀ j, j < K → ¬ g j = 0) (hz : K < 1120 → g K = 0) (h1 : ¬ a 0 = 0) (h2 : yVw a q = true) (h3 : yPl a r = true) (h4 : ¬ k < 0) (h5 : k ≤ 3) : Mi l D cI cZ cJ yL_worldsWith wsL_worldsWith 4 91 sz [.ref hT, .int q, .int r, .int k, .ref hX] [cT hT hB hV a, cB hB hG tr, cA cI hG 1120 g, cL cJ hX 1 ot] [cT hT hB hV a, cB hB hG tr, cA cI hG 1120 g, cL cJ hX 1 (vp_updL ot 0 (xCnt (pRo g tr (yKn a q) r k) K).toInt64)] (0) := by
  refine mi_ofH (by decide) rfl (Nat.le_of_ble_eq_true rfl) (fun p e s m below meth c ls A hx hb hr hml hts hown hlocks hP hK hN hD hA hS hl => ?_)
  have hl : lv_has ls 6 [(0, .ref hT), (1, .int q), (2, .int r), (3, .int k), (4, .ref hX)] := hl
  refine lv_aload hx hb dL_worldsWith_0 (lv_at hl 4 rfl) ?_
  refine lv_iconst (v := 0) hx hb dL_worldsWith_2 (by decide) ?_
  refine lv_aload_n hx hb dL_worldsWith_3 rfl (lv_at hl 0 rfl) ?_
  refine lv_iload_n hx hb dL_worldsWith_4 rfl (lv_at hl 1 rfl) ?_
  refine lv_iload_n hx hb dL_worldsWith_5 rfl (lv_at hl 2 rfl) ?_
  refine lv_iload_n hx hb dL_worldsWith_6 rfl (lv_at hl 3 rfl) ?_
  refine rd_V (b := hT) (As := [.int q, .int r, .int k]) (rest := [.int 0, .ref hX]) ⟨hx, hb, hml, hown, hts⟩ (c_X1_worldsWith l D cI cZ cJ hT hB hV a hG tr g q r k K hK9 hg hz h1 h2 h3 h4 h5) (cwV 3 hts gL_worldsWith_X1_worldsWith rfl rfl rfl (by decide +kernel) ⟨Nat.le_of_ble_eq_true rfl, Nat.le_of_ble_eq_true rfl⟩) (hP.sub (ws' := [cT hT hB hV a, cB hB hG tr, cA cI hG 1120 g]) [0, 1, 2] rfl) hK hN (va_recv hK hP (ci := 1) (q0 := 0) rfl rfl) rfl hl.1 rfl (Nat.le_of_ble_eq_true rfl) dL_worldsWith_7 ⟨Nat.le_of_ble_eq_true rfl, Nat.le_of_ble_eq_true rfl⟩ ?_
  refine lv_i2l (v := ((xCnt (pRo g tr (yKn a q) r k) K)).toInt64) hx hb dL_worldsWith_10 rfl ?_
  refine q_last (D := D) hx hb hK hP hD hS 3 2 rfl rfl dL_worldsWith_11 (fun H locs hP hD hS => ?_)
  have hP : va_P D vwCl [cT hT hB hV a, cB hB hG tr, cA cI hG 1120 g, cL cJ hX 1 (vp_updL ot 0 (((xCnt (pRo g tr (yKn a q) r k) K)).toInt64))] H := hP
  have hD : va_D A [cT hT hB hV a, cB hB hG tr, cA cI hG 1120 g, cL cJ hX 1 (vp_updL ot 0 (((xCnt (pRo g tr (yKn a q) r k) K)).toInt64))] := hD
  refine lv_goto (tgt := 27) hx hb dL_worldsWith_12 (by decide) ?_
  refine lv_iconst (v := 0) hx hb dL_worldsWith_27 (by decide) ?_
  have hP9 : va_P D vwCl [cT hT hB hV a, cB hB hG tr, cA cI hG 1120 g, cL cJ hX 1 (vp_updL ot 0 (xCnt (pRo g tr (yKn a q) r k) K).toInt64)] H := by
    have e9_0 : (vp_updL ot 0 (xCnt (pRo g tr (yKn a q) r k) K).toInt64) = (vp_updL ot 0 (((xCnt (pRo g tr (yKn a q) r k) K)).toInt64)) := by (first | rfl | (simp only [bI]; rfl))
    rw [e9_0]
    exact hP
  exact mi_iret hx hb hr hlocks hS (by rfl) hP9 dL_worldsWith_28

set_option maxHeartbeats 2000000 in
set_option maxRecDepth 100000 in
theorem f_L_worldsWith (l : Launch) (D : va_G) (cI cZ cJ : ClassId) (sz : Nat) (hst : l.stackTraces = false) (hT : Nat) (hB : Nat) (hV : Nat) (a : Nat → Int32) (hX : Nat) (ot : Nat → Int64) (q : Int32) (r : Int32) (k : Int32) (hk : ¬ kYx a q r k = 0) : Mx l D cI cZ cJ yL_worldsWith wsL_worldsWith 9 155 sz [.ref hT, .int q, .int r, .int k, .ref hX] [cT hT hB hV a, cL cJ hX 1 ot] (kYx a q r k) := by
  refine mx_ofH (by decide) rfl (Nat.le_of_ble_eq_true rfl) (fun p e s m below meth c ls A hx hb hr hml hts hown hlocks htab hP hK hN hD hA hS hZ hY hXn hl => ?_)
  have hl : lv_has ls 6 [(0, .ref hT), (1, .int q), (2, .int r), (3, .int k), (4, .ref hX)] := hl
  refine lv_aload hx hb dL_worldsWith_0 (lv_at hl 4 rfl) ?_
  refine lv_iconst (v := 0) hx hb dL_worldsWith_2 (by decide) ?_
  refine lv_aload_n hx hb dL_worldsWith_3 rfl (lv_at hl 0 rfl) ?_
  refine lv_iload_n hx hb dL_worldsWith_4 rfl (lv_at hl 1 rfl) ?_
  refine lv_iload_n hx hb dL_worldsWith_5 rfl (lv_at hl 2 rfl) ?_
  refine lv_iload_n hx hb dL_worldsWith_6 rfl (lv_at hl 3 rfl) ?_
  refine xc_V (b := hT) (As := [.int q, .int r, .int k]) (rest := [.int 0, .ref hX]) ⟨hx, hb, hml, hown, hts⟩ (t_X1_worldsWith l D cI cZ cJ _ hst hT hB hV a q r k hk) (cwV 3 hts gL_worldsWith_X1_worldsWith rfl rfl rfl (by decide +kernel) ⟨Nat.le_of_ble_eq_true rfl, Nat.le_of_ble_eq_true rfl⟩) hP hD hK hN hY hS hA hZ (va_recv hK hP (ci := 1) (q0 := 0) rfl rfl) rfl hl.1 rfl (Nat.le_of_ble_eq_true rfl) dL_worldsWith_7 ⟨Nat.le_of_ble_eq_true rfl, Nat.le_of_ble_eq_true rfl⟩ [0] [1] rfl rfl 2 rfl (by decide) (by decide) (fun H locs qe ce hP hD hS hq1 hq2 hq3 => ?_)
  have hv9 : kYx a q r k = 0 ∨ kYx a q r k = 1 ∨ kYx a q r k = 2 ∨ kYx a q r k = 3 := kYx_in _ _ _ _
  rcases hv9 with h9 | h9 | h9 | h9
  · exact absurd h9 hk
  · rw [h9] at hq3
    refine vx_catch (E := "java/lang/IllegalStateException") (name := "java/lang/IllegalStateException") hown [] ⟨0, 12, 15, 19⟩ [⟨0, 12, 19, 21⟩, ⟨0, 12, 23, 13⟩] htab (fun _ h => nomatch h) (by decide) (by decide) (hts (.classLink RL 19 "java/lang/IllegalStateException") (List.mem_of_getElem? (i := 1) rfl)) (va_Nw.use rfl (hN.2.2 _ (List.mem_of_getElem? (i := 0) rfl))) hq1 hq2 hq3 ?_
    refine lv_astore (lv' := [(5, .ref qe), (0, .ref hT), (1, .int q), (2, .int r), (3, .int k), (4, .ref hX)]) hx hb dL_worldsWith_15 hl (by decide) rfl (fun ls hl => ?_)
    refine lv_iconst (v := 1) hx hb dL_worldsWith_17 (by decide) ?_
    exact mx_iret hx hb hr hlocks hS h9.symm hP dL_worldsWith_18
  · rw [h9] at hq3
    refine vx_catch (E := "java/lang/IndexOutOfBoundsException") (name := "java/lang/IndexOutOfBoundsException") hown [⟨0, 12, 15, 19⟩] ⟨0, 12, 19, 21⟩ [⟨0, 12, 23, 13⟩] htab (List.forall_mem_cons.mpr ⟨Or.inr ⟨by decide, "java/lang/IllegalStateException", (hts (.classLink RL 19 "java/lang/IllegalStateException") (List.mem_of_getElem? (i := 1) rfl)), hXn.at 3 rfl⟩, (fun _ h => nomatch h)⟩) (by decide) (by decide) (hts (.classLink RL 21 "java/lang/IndexOutOfBoundsException") (List.mem_of_getElem? (i := 2) rfl)) (va_Nw.use rfl (hN.2.2 _ (List.mem_of_getElem? (i := 1) rfl))) hq1 hq2 hq3 ?_
    refine lv_astore (lv' := [(5, .ref qe), (0, .ref hT), (1, .int q), (2, .int r), (3, .int k), (4, .ref hX)]) hx hb dL_worldsWith_19 hl (by decide) rfl (fun ls hl => ?_)
    refine lv_iconst (v := 2) hx hb dL_worldsWith_21 (by decide) ?_
    exact mx_iret hx hb hr hlocks hS h9.symm hP dL_worldsWith_22
  · rw [h9] at hq3
    refine vx_catch (E := "java/lang/IllegalArgumentException") (name := "java/lang/IllegalArgumentException") hown [⟨0, 12, 15, 19⟩, ⟨0, 12, 19, 21⟩] ⟨0, 12, 23, 13⟩ [] htab (List.forall_mem_cons.mpr ⟨Or.inr ⟨by decide, "java/lang/IllegalStateException", (hts (.classLink RL 19 "java/lang/IllegalStateException") (List.mem_of_getElem? (i := 1) rfl)), hXn.at 6 rfl⟩, (List.forall_mem_cons.mpr ⟨Or.inr ⟨by decide, "java/lang/IndexOutOfBoundsException", (hts (.classLink RL 21 "java/lang/IndexOutOfBoundsException") (List.mem_of_getElem? (i := 2) rfl)), hXn.at 7 rfl⟩, (fun _ h => nomatch h)⟩)⟩) (by decide) (by decide) (hts (.classLink RL 13 "java/lang/IllegalArgumentException") (List.mem_of_getElem? (i := 3) rfl)) (va_Nw.use rfl (hN.2.2 _ (List.mem_of_getElem? (i := 2) rfl))) hq1 hq2 hq3 ?_
    refine lv_astore (lv' := [(5, .ref qe), (0, .ref hT), (1, .int q), (2, .int r), (3, .int k), (4, .ref hX)]) hx hb dL_worldsWith_23 hl (by decide) rfl (fun ls hl => ?_)
    refine lv_iconst (v := 3) hx hb dL_worldsWith_25 (by decide) ?_
    exact mx_iret hx hb hr hlocks hS h9.symm hP dL_worldsWith_26

theorem in_L_sureWitches_X0 : ∀ w ∈ wsX00, w ∈ wsL_sureWitches := by decide +kernel
theorem in_L_sureWitches_X1 : ∀ w ∈ wsX10, w ∈ wsL_sureWitches := by decide +kernel
set_option maxHeartbeats 2000000 in
set_option maxRecDepth 100000 in
theorem c_L_sureWitches (l : Launch) (D : va_G) (cI cZ cJ : ClassId) (sz : Nat) (hT : Nat) (hB : Nat) (hV : Nat) (a : Nat → Int32) (hG : Nat) (tr : Int32) (g : Nat → Int32) (hX : Nat) (ot : Nat → Int64) (q : Int32) (K : Nat) (hK9 : K ≤ 1120) (hg : ∀ j, j < K → ¬ g j = 0) (hz : K < 1120 → g K = 0) (h1 : ¬ a 0 = 0) (h2 : yVw a q = true) : Mi l D cI cZ cJ yL_sureWitches wsL_sureWitches 4 84 sz [.ref hT, .int q, .ref hX] [cT hT hB hV a, cB hB hG tr, cA cI hG 1120 g, cL cJ hX 1 ot] [cT hT hB hV a, cB hB hG tr, cA cI hG 1120 g, cL cJ hX 1 (vp_updL ot 0 (yWa g tr (yKn a q) K).toInt64)] (0) := by
  refine mi_ofH (by decide) rfl (Nat.le_of_ble_eq_true rfl) (fun p e s m below meth c ls A hx hb hr hml hts hown hlocks hP hK hN hD hA hS hl => ?_)
  have hl : lv_has ls 4 [(0, .ref hT), (1, .int q), (2, .ref hX)] := hl
  refine lv_aload_n hx hb dL_sureWitches_0 rfl (lv_at hl 2 rfl) ?_
  refine lv_iconst (v := 0) hx hb dL_sureWitches_1 (by decide) ?_
  refine lv_aload_n hx hb dL_sureWitches_2 rfl (lv_at hl 0 rfl) ?_
  refine lv_iload_n hx hb dL_sureWitches_3 rfl (lv_at hl 1 rfl) ?_
  refine rd_V (b := hT) (As := [.int q]) (rest := [.int 0, .ref hX]) ⟨hx, hb, hml, hown, hts⟩ (c_X1_sureWitches l D cI cZ cJ hT hB hV a hG tr g q K hK9 hg hz h1 h2) (cwV 1 hts gL_sureWitches_X1_sureWitches rfl rfl rfl (by decide +kernel) ⟨Nat.le_of_ble_eq_true rfl, Nat.le_of_ble_eq_true rfl⟩) (hP.sub (ws' := [cT hT hB hV a, cB hB hG tr, cA cI hG 1120 g]) [0, 1, 2] rfl) hK hN (va_recv hK hP (ci := 1) (q0 := 0) rfl rfl) rfl hl.1 rfl (Nat.le_of_ble_eq_true rfl) dL_sureWitches_4 ⟨Nat.le_of_ble_eq_true rfl, Nat.le_of_ble_eq_true rfl⟩ ?_
  refine lv_i2l (v := ((yWa g tr (yKn a q) K)).toInt64) hx hb dL_sureWitches_7 rfl ?_
  refine q_last (D := D) hx hb hK hP hD hS 3 2 rfl rfl dL_sureWitches_8 (fun H locs hP hD hS => ?_)
  have hP : va_P D vwCl [cT hT hB hV a, cB hB hG tr, cA cI hG 1120 g, cL cJ hX 1 (vp_updL ot 0 (((yWa g tr (yKn a q) K)).toInt64))] H := hP
  have hD : va_D A [cT hT hB hV a, cB hB hG tr, cA cI hG 1120 g, cL cJ hX 1 (vp_updL ot 0 (((yWa g tr (yKn a q) K)).toInt64))] := hD
  refine lv_goto (tgt := 18) hx hb dL_sureWitches_9 (by decide) ?_
  refine lv_iconst (v := 0) hx hb dL_sureWitches_18 (by decide) ?_
  have hP9 : va_P D vwCl [cT hT hB hV a, cB hB hG tr, cA cI hG 1120 g, cL cJ hX 1 (vp_updL ot 0 (yWa g tr (yKn a q) K).toInt64)] H := by
    have e9_0 : (vp_updL ot 0 (yWa g tr (yKn a q) K).toInt64) = (vp_updL ot 0 (((yWa g tr (yKn a q) K)).toInt64)) := by (first | rfl | (simp only [bI]; rfl))
    rw [e9_0]
    exact hP
  exact mi_iret hx hb hr hlocks hS (by rfl) hP9 dL_sureWitches_19

set_option maxHeartbeats 2000000 in
set_option maxRecDepth 100000 in
theorem f_L_sureWitches (l : Launch) (D : va_G) (cI cZ cJ : ClassId) (sz : Nat) (hst : l.stackTraces = false) (hT : Nat) (hB : Nat) (hV : Nat) (a : Nat → Int32) (hX : Nat) (ot : Nat → Int64) (q : Int32) (hk : ¬ kYw a q = 0) : Mx l D cI cZ cJ yL_sureWitches wsL_sureWitches 9 153 sz [.ref hT, .int q, .ref hX] [cT hT hB hV a, cL cJ hX 1 ot] (kYw a q) := by
  refine mx_ofH (by decide) rfl (Nat.le_of_ble_eq_true rfl) (fun p e s m below meth c ls A hx hb hr hml hts hown hlocks htab hP hK hN hD hA hS hZ hY hXn hl => ?_)
  have hl : lv_has ls 4 [(0, .ref hT), (1, .int q), (2, .ref hX)] := hl
  refine lv_aload_n hx hb dL_sureWitches_0 rfl (lv_at hl 2 rfl) ?_
  refine lv_iconst (v := 0) hx hb dL_sureWitches_1 (by decide) ?_
  refine lv_aload_n hx hb dL_sureWitches_2 rfl (lv_at hl 0 rfl) ?_
  refine lv_iload_n hx hb dL_sureWitches_3 rfl (lv_at hl 1 rfl) ?_
  refine xc_V (b := hT) (As := [.int q]) (rest := [.int 0, .ref hX]) ⟨hx, hb, hml, hown, hts⟩ (t_X1_sureWitches l D cI cZ cJ _ hst hT hB hV a q hk) (cwV 1 hts gL_sureWitches_X1_sureWitches rfl rfl rfl (by decide +kernel) ⟨Nat.le_of_ble_eq_true rfl, Nat.le_of_ble_eq_true rfl⟩) hP hD hK hN hY hS hA hZ (va_recv hK hP (ci := 1) (q0 := 0) rfl rfl) rfl hl.1 rfl (Nat.le_of_ble_eq_true rfl) dL_sureWitches_4 ⟨Nat.le_of_ble_eq_true rfl, Nat.le_of_ble_eq_true rfl⟩ [0] [1] rfl rfl 2 rfl (by decide) (by decide) (fun H locs qe ce hP hD hS hq1 hq2 hq3 => ?_)
  have hv9 : kYw a q = 0 ∨ kYw a q = 1 ∨ kYw a q = 2 := kYw_in _ _
  rcases hv9 with h9 | h9 | h9
  · exact absurd h9 hk
  · rw [h9] at hq3
    refine vx_catch (E := "java/lang/IllegalStateException") (name := "java/lang/IllegalStateException") hown [] ⟨0, 9, 12, 19⟩ [⟨0, 9, 15, 21⟩] htab (fun _ h => nomatch h) (by decide) (by decide) (hts (.classLink RL 19 "java/lang/IllegalStateException") (List.mem_of_getElem? (i := 1) rfl)) (va_Nw.use rfl (hN.2.2 _ (List.mem_of_getElem? (i := 0) rfl))) hq1 hq2 hq3 ?_
    refine lv_astore_n (lv' := [(3, .ref qe), (0, .ref hT), (1, .int q), (2, .ref hX)]) hx hb dL_sureWitches_12 rfl hl (by decide) rfl (fun ls hl => ?_)
    refine lv_iconst (v := 1) hx hb dL_sureWitches_13 (by decide) ?_
    exact mx_iret hx hb hr hlocks hS h9.symm hP dL_sureWitches_14
  · rw [h9] at hq3
    refine vx_catch (E := "java/lang/IndexOutOfBoundsException") (name := "java/lang/IndexOutOfBoundsException") hown [⟨0, 9, 12, 19⟩] ⟨0, 9, 15, 21⟩ [] htab (List.forall_mem_cons.mpr ⟨Or.inr ⟨by decide, "java/lang/IllegalStateException", (hts (.classLink RL 19 "java/lang/IllegalStateException") (List.mem_of_getElem? (i := 1) rfl)), hXn.at 3 rfl⟩, (fun _ h => nomatch h)⟩) (by decide) (by decide) (hts (.classLink RL 21 "java/lang/IndexOutOfBoundsException") (List.mem_of_getElem? (i := 2) rfl)) (va_Nw.use rfl (hN.2.2 _ (List.mem_of_getElem? (i := 1) rfl))) hq1 hq2 hq3 ?_
    refine lv_astore_n (lv' := [(3, .ref qe), (0, .ref hT), (1, .int q), (2, .ref hX)]) hx hb dL_sureWitches_15 rfl hl (by decide) rfl (fun ls hl => ?_)
    refine lv_iconst (v := 2) hx hb dL_sureWitches_16 (by decide) ?_
    exact mx_iret hx hb hr hlocks hS h9.symm hP dL_sureWitches_17

theorem in_L_sureHonest_X0 : ∀ w ∈ wsX00, w ∈ wsL_sureHonest := by decide +kernel
theorem in_L_sureHonest_X1 : ∀ w ∈ wsX10, w ∈ wsL_sureHonest := by decide +kernel
set_option maxHeartbeats 2000000 in
set_option maxRecDepth 100000 in
theorem c_L_sureHonest (l : Launch) (D : va_G) (cI cZ cJ : ClassId) (sz : Nat) (hT : Nat) (hB : Nat) (hV : Nat) (a : Nat → Int32) (hG : Nat) (tr : Int32) (g : Nat → Int32) (hX : Nat) (ot : Nat → Int64) (q : Int32) (K : Nat) (hK9 : K ≤ 1120) (hg : ∀ j, j < K → ¬ g j = 0) (hz : K < 1120 → g K = 0) (h1 : ¬ a 0 = 0) (h2 : yVw a q = true) : Mi l D cI cZ cJ yL_sureHonest wsL_sureHonest 4 84 sz [.ref hT, .int q, .ref hX] [cT hT hB hV a, cB hB hG tr, cA cI hG 1120 g, cL cJ hX 1 ot] [cT hT hB hV a, cB hB hG tr, cA cI hG 1120 g, cL cJ hX 1 (vp_updL ot 0 (xAll (a 2) &&& (yWy g tr (yKn a q) K ^^^ (-1))).toInt64)] (0) := by
  refine mi_ofH (by decide) rfl (Nat.le_of_ble_eq_true rfl) (fun p e s m below meth c ls A hx hb hr hml hts hown hlocks hP hK hN hD hA hS hl => ?_)
  have hl : lv_has ls 4 [(0, .ref hT), (1, .int q), (2, .ref hX)] := hl
  refine lv_aload_n hx hb dL_sureHonest_0 rfl (lv_at hl 2 rfl) ?_
  refine lv_iconst (v := 0) hx hb dL_sureHonest_1 (by decide) ?_
  refine lv_aload_n hx hb dL_sureHonest_2 rfl (lv_at hl 0 rfl) ?_
  refine lv_iload_n hx hb dL_sureHonest_3 rfl (lv_at hl 1 rfl) ?_
  refine rd_V (b := hT) (As := [.int q]) (rest := [.int 0, .ref hX]) ⟨hx, hb, hml, hown, hts⟩ (c_X1_sureHonest l D cI cZ cJ hT hB hV a hG tr g q K hK9 hg hz h1 h2) (cwV 1 hts gL_sureHonest_X1_sureHonest rfl rfl rfl (by decide +kernel) ⟨Nat.le_of_ble_eq_true rfl, Nat.le_of_ble_eq_true rfl⟩) (hP.sub (ws' := [cT hT hB hV a, cB hB hG tr, cA cI hG 1120 g]) [0, 1, 2] rfl) hK hN (va_recv hK hP (ci := 1) (q0 := 0) rfl rfl) rfl hl.1 rfl (Nat.le_of_ble_eq_true rfl) dL_sureHonest_4 ⟨Nat.le_of_ble_eq_true rfl, Nat.le_of_ble_eq_true rfl⟩ ?_
  refine lv_i2l (v := ((xAll (a 2) &&& (yWy g tr (yKn a q) K ^^^ (-1)))).toInt64) hx hb dL_sureHonest_7 rfl ?_
  refine q_last (D := D) hx hb hK hP hD hS 3 2 rfl rfl dL_sureHonest_8 (fun H locs hP hD hS => ?_)
  have hP : va_P D vwCl [cT hT hB hV a, cB hB hG tr, cA cI hG 1120 g, cL cJ hX 1 (vp_updL ot 0 (((xAll (a 2) &&& (yWy g tr (yKn a q) K ^^^ (-1)))).toInt64))] H := hP
  have hD : va_D A [cT hT hB hV a, cB hB hG tr, cA cI hG 1120 g, cL cJ hX 1 (vp_updL ot 0 (((xAll (a 2) &&& (yWy g tr (yKn a q) K ^^^ (-1)))).toInt64))] := hD
  refine lv_goto (tgt := 18) hx hb dL_sureHonest_9 (by decide) ?_
  refine lv_iconst (v := 0) hx hb dL_sureHonest_18 (by decide) ?_
  have hP9 : va_P D vwCl [cT hT hB hV a, cB hB hG tr, cA cI hG 1120 g, cL cJ hX 1 (vp_updL ot 0 (xAll (a 2) &&& (yWy g tr (yKn a q) K ^^^ (-1))).toInt64)] H := by
    have e9_0 : (vp_updL ot 0 (xAll (a 2) &&& (yWy g tr (yKn a q) K ^^^ (-1))).toInt64) = (vp_updL ot 0 (((xAll (a 2) &&& (yWy g tr (yKn a q) K ^^^ (-1)))).toInt64)) := by (first | rfl | (simp only [bI]; rfl))
    rw [e9_0]
    exact hP
  exact mi_iret hx hb hr hlocks hS (by rfl) hP9 dL_sureHonest_19

set_option maxHeartbeats 2000000 in
set_option maxRecDepth 100000 in
theorem f_L_sureHonest (l : Launch) (D : va_G) (cI cZ cJ : ClassId) (sz : Nat) (hst : l.stackTraces = false) (hT : Nat) (hB : Nat) (hV : Nat) (a : Nat → Int32) (hX : Nat) (ot : Nat → Int64) (q : Int32) (hk : ¬ kYw a q = 0) : Mx l D cI cZ cJ yL_sureHonest wsL_sureHonest 9 153 sz [.ref hT, .int q, .ref hX] [cT hT hB hV a, cL cJ hX 1 ot] (kYw a q) := by
  refine mx_ofH (by decide) rfl (Nat.le_of_ble_eq_true rfl) (fun p e s m below meth c ls A hx hb hr hml hts hown hlocks htab hP hK hN hD hA hS hZ hY hXn hl => ?_)
  have hl : lv_has ls 4 [(0, .ref hT), (1, .int q), (2, .ref hX)] := hl
  refine lv_aload_n hx hb dL_sureHonest_0 rfl (lv_at hl 2 rfl) ?_
  refine lv_iconst (v := 0) hx hb dL_sureHonest_1 (by decide) ?_
  refine lv_aload_n hx hb dL_sureHonest_2 rfl (lv_at hl 0 rfl) ?_
  refine lv_iload_n hx hb dL_sureHonest_3 rfl (lv_at hl 1 rfl) ?_
  refine xc_V (b := hT) (As := [.int q]) (rest := [.int 0, .ref hX]) ⟨hx, hb, hml, hown, hts⟩ (t_X1_sureHonest l D cI cZ cJ _ hst hT hB hV a q hk) (cwV 1 hts gL_sureHonest_X1_sureHonest rfl rfl rfl (by decide +kernel) ⟨Nat.le_of_ble_eq_true rfl, Nat.le_of_ble_eq_true rfl⟩) hP hD hK hN hY hS hA hZ (va_recv hK hP (ci := 1) (q0 := 0) rfl rfl) rfl hl.1 rfl (Nat.le_of_ble_eq_true rfl) dL_sureHonest_4 ⟨Nat.le_of_ble_eq_true rfl, Nat.le_of_ble_eq_true rfl⟩ [0] [1] rfl rfl 2 rfl (by decide) (by decide) (fun H locs qe ce hP hD hS hq1 hq2 hq3 => ?_)
  have hv9 : kYw a q = 0 ∨ kYw a q = 1 ∨ kYw a q = 2 := kYw_in _ _
  rcases hv9 with h9 | h9 | h9
  · exact absurd h9 hk
  · rw [h9] at hq3
    refine vx_catch (E := "java/lang/IllegalStateException") (name := "java/lang/IllegalStateException") hown [] ⟨0, 9, 12, 19⟩ [⟨0, 9, 15, 21⟩] htab (fun _ h => nomatch h) (by decide) (by decide) (hts (.classLink RL 19 "java/lang/IllegalStateException") (List.mem_of_getElem? (i := 1) rfl)) (va_Nw.use rfl (hN.2.2 _ (List.mem_of_getElem? (i := 0) rfl))) hq1 hq2 hq3 ?_
    refine lv_astore_n (lv' := [(3, .ref qe), (0, .ref hT), (1, .int q), (2, .ref hX)]) hx hb dL_sureHonest_12 rfl hl (by decide) rfl (fun ls hl => ?_)
    refine lv_iconst (v := 1) hx hb dL_sureHonest_13 (by decide) ?_
    exact mx_iret hx hb hr hlocks hS h9.symm hP dL_sureHonest_14
  · rw [h9] at hq3
    refine vx_catch (E := "java/lang/IndexOutOfBoundsException") (name := "java/lang/IndexOutOfBoundsException") hown [⟨0, 9, 12, 19⟩] ⟨0, 9, 15, 21⟩ [] htab (List.forall_mem_cons.mpr ⟨Or.inr ⟨by decide, "java/lang/IllegalStateException", (hts (.classLink RL 19 "java/lang/IllegalStateException") (List.mem_of_getElem? (i := 1) rfl)), hXn.at 3 rfl⟩, (fun _ h => nomatch h)⟩) (by decide) (by decide) (hts (.classLink RL 21 "java/lang/IndexOutOfBoundsException") (List.mem_of_getElem? (i := 2) rfl)) (va_Nw.use rfl (hN.2.2 _ (List.mem_of_getElem? (i := 1) rfl))) hq1 hq2 hq3 ?_
    refine lv_astore_n (lv' := [(3, .ref qe), (0, .ref hT), (1, .int q), (2, .ref hX)]) hx hb dL_sureHonest_15 rfl hl (by decide) rfl (fun ls hl => ?_)
    refine lv_iconst (v := 2) hx hb dL_sureHonest_16 (by decide) ?_
    exact mx_iret hx hb hr hlocks hS h9.symm hP dL_sureHonest_17

theorem in_L_witchSets_X0 : ∀ w ∈ wsX00, w ∈ wsL_witchSets := by decide +kernel
theorem in_L_witchSets_X1 : ∀ w ∈ wsX10, w ∈ wsL_witchSets := by decide +kernel
set_option maxHeartbeats 2000000 in
set_option maxRecDepth 100000 in
theorem c_L_witchSets (l : Launch) (D : va_G) (cI cZ cJ : ClassId) (sz : Nat) (hT : Nat) (hB : Nat) (hV : Nat) (a : Nat → Int32) (hG : Nat) (tr : Int32) (g : Nat → Int32) (hX : Nat) (ot : Nat → Int64) (q : Int32) (K : Nat) (hK9 : K ≤ 1120) (hg : ∀ j, j < K → ¬ g j = 0) (hz : K < 1120 → g K = 0) (h1 : ¬ a 0 = 0) (h2 : yVw a q = true) : Mi l D cI cZ cJ yL_witchSets wsL_witchSets 4 84 sz [.ref hT, .int q, .ref hX] [cT hT hB hV a, cB hB hG tr, cA cI hG 1120 g, cL cJ hX 1 ot] [cT hT hB hV a, cB hB hG tr, cA cI hG 1120 g, cL cJ hX 1 (vp_updL ot 0 ((yCs g tr (yKn a q) K).1).toInt64)] (0) := by
  refine mi_ofH (by decide) rfl (Nat.le_of_ble_eq_true rfl) (fun p e s m below meth c ls A hx hb hr hml hts hown hlocks hP hK hN hD hA hS hl => ?_)
  have hl : lv_has ls 4 [(0, .ref hT), (1, .int q), (2, .ref hX)] := hl
  refine lv_aload_n hx hb dL_witchSets_0 rfl (lv_at hl 2 rfl) ?_
  refine lv_iconst (v := 0) hx hb dL_witchSets_1 (by decide) ?_
  refine lv_aload_n hx hb dL_witchSets_2 rfl (lv_at hl 0 rfl) ?_
  refine lv_iload_n hx hb dL_witchSets_3 rfl (lv_at hl 1 rfl) ?_
  refine rd_V (b := hT) (As := [.int q]) (rest := [.int 0, .ref hX]) ⟨hx, hb, hml, hown, hts⟩ (c_X1_witchSets l D cI cZ cJ hT hB hV a hG tr g q K hK9 hg hz h1 h2) (cwV 1 hts gL_witchSets_X1_witchSets rfl rfl rfl (by decide +kernel) ⟨Nat.le_of_ble_eq_true rfl, Nat.le_of_ble_eq_true rfl⟩) (hP.sub (ws' := [cT hT hB hV a, cB hB hG tr, cA cI hG 1120 g]) [0, 1, 2] rfl) hK hN (va_recv hK hP (ci := 1) (q0 := 0) rfl rfl) rfl hl.1 rfl (Nat.le_of_ble_eq_true rfl) dL_witchSets_4 ⟨Nat.le_of_ble_eq_true rfl, Nat.le_of_ble_eq_true rfl⟩ ?_
  refine lv_i2l (v := (((yCs g tr (yKn a q) K).1)).toInt64) hx hb dL_witchSets_7 rfl ?_
  refine q_last (D := D) hx hb hK hP hD hS 3 2 rfl rfl dL_witchSets_8 (fun H locs hP hD hS => ?_)
  have hP : va_P D vwCl [cT hT hB hV a, cB hB hG tr, cA cI hG 1120 g, cL cJ hX 1 (vp_updL ot 0 ((((yCs g tr (yKn a q) K).1)).toInt64))] H := hP
  have hD : va_D A [cT hT hB hV a, cB hB hG tr, cA cI hG 1120 g, cL cJ hX 1 (vp_updL ot 0 ((((yCs g tr (yKn a q) K).1)).toInt64))] := hD
  refine lv_goto (tgt := 18) hx hb dL_witchSets_9 (by decide) ?_
  refine lv_iconst (v := 0) hx hb dL_witchSets_18 (by decide) ?_
  have hP9 : va_P D vwCl [cT hT hB hV a, cB hB hG tr, cA cI hG 1120 g, cL cJ hX 1 (vp_updL ot 0 ((yCs g tr (yKn a q) K).1).toInt64)] H := by
    have e9_0 : (vp_updL ot 0 ((yCs g tr (yKn a q) K).1).toInt64) = (vp_updL ot 0 ((((yCs g tr (yKn a q) K).1)).toInt64)) := by (first | rfl | (simp only [bI]; rfl))
    rw [e9_0]
    exact hP
  exact mi_iret hx hb hr hlocks hS (by rfl) hP9 dL_witchSets_19

set_option maxHeartbeats 2000000 in
set_option maxRecDepth 100000 in
theorem f_L_witchSets (l : Launch) (D : va_G) (cI cZ cJ : ClassId) (sz : Nat) (hst : l.stackTraces = false) (hT : Nat) (hB : Nat) (hV : Nat) (a : Nat → Int32) (hX : Nat) (ot : Nat → Int64) (q : Int32) (hk : ¬ kYw a q = 0) : Mx l D cI cZ cJ yL_witchSets wsL_witchSets 9 153 sz [.ref hT, .int q, .ref hX] [cT hT hB hV a, cL cJ hX 1 ot] (kYw a q) := by
  refine mx_ofH (by decide) rfl (Nat.le_of_ble_eq_true rfl) (fun p e s m below meth c ls A hx hb hr hml hts hown hlocks htab hP hK hN hD hA hS hZ hY hXn hl => ?_)
  have hl : lv_has ls 4 [(0, .ref hT), (1, .int q), (2, .ref hX)] := hl
  refine lv_aload_n hx hb dL_witchSets_0 rfl (lv_at hl 2 rfl) ?_
  refine lv_iconst (v := 0) hx hb dL_witchSets_1 (by decide) ?_
  refine lv_aload_n hx hb dL_witchSets_2 rfl (lv_at hl 0 rfl) ?_
  refine lv_iload_n hx hb dL_witchSets_3 rfl (lv_at hl 1 rfl) ?_
  refine xc_V (b := hT) (As := [.int q]) (rest := [.int 0, .ref hX]) ⟨hx, hb, hml, hown, hts⟩ (t_X1_witchSets l D cI cZ cJ _ hst hT hB hV a q hk) (cwV 1 hts gL_witchSets_X1_witchSets rfl rfl rfl (by decide +kernel) ⟨Nat.le_of_ble_eq_true rfl, Nat.le_of_ble_eq_true rfl⟩) hP hD hK hN hY hS hA hZ (va_recv hK hP (ci := 1) (q0 := 0) rfl rfl) rfl hl.1 rfl (Nat.le_of_ble_eq_true rfl) dL_witchSets_4 ⟨Nat.le_of_ble_eq_true rfl, Nat.le_of_ble_eq_true rfl⟩ [0] [1] rfl rfl 2 rfl (by decide) (by decide) (fun H locs qe ce hP hD hS hq1 hq2 hq3 => ?_)
  have hv9 : kYw a q = 0 ∨ kYw a q = 1 ∨ kYw a q = 2 := kYw_in _ _
  rcases hv9 with h9 | h9 | h9
  · exact absurd h9 hk
  · rw [h9] at hq3
    refine vx_catch (E := "java/lang/IllegalStateException") (name := "java/lang/IllegalStateException") hown [] ⟨0, 9, 12, 19⟩ [⟨0, 9, 15, 21⟩] htab (fun _ h => nomatch h) (by decide) (by decide) (hts (.classLink RL 19 "java/lang/IllegalStateException") (List.mem_of_getElem? (i := 1) rfl)) (va_Nw.use rfl (hN.2.2 _ (List.mem_of_getElem? (i := 0) rfl))) hq1 hq2 hq3 ?_
    refine lv_astore_n (lv' := [(3, .ref qe), (0, .ref hT), (1, .int q), (2, .ref hX)]) hx hb dL_witchSets_12 rfl hl (by decide) rfl (fun ls hl => ?_)
    refine lv_iconst (v := 1) hx hb dL_witchSets_13 (by decide) ?_
    exact mx_iret hx hb hr hlocks hS h9.symm hP dL_witchSets_14
  · rw [h9] at hq3
    refine vx_catch (E := "java/lang/IndexOutOfBoundsException") (name := "java/lang/IndexOutOfBoundsException") hown [⟨0, 9, 12, 19⟩] ⟨0, 9, 15, 21⟩ [] htab (List.forall_mem_cons.mpr ⟨Or.inr ⟨by decide, "java/lang/IllegalStateException", (hts (.classLink RL 19 "java/lang/IllegalStateException") (List.mem_of_getElem? (i := 1) rfl)), hXn.at 3 rfl⟩, (fun _ h => nomatch h)⟩) (by decide) (by decide) (hts (.classLink RL 21 "java/lang/IndexOutOfBoundsException") (List.mem_of_getElem? (i := 2) rfl)) (va_Nw.use rfl (hN.2.2 _ (List.mem_of_getElem? (i := 1) rfl))) hq1 hq2 hq3 ?_
    refine lv_astore_n (lv' := [(3, .ref qe), (0, .ref hT), (1, .int q), (2, .ref hX)]) hx hb dL_witchSets_15 rfl hl (by decide) rfl (fun ls hl => ?_)
    refine lv_iconst (v := 2) hx hb dL_witchSets_16 (by decide) ?_
    exact mx_iret hx hb hr hlocks hS h9.symm hP dL_witchSets_17

theorem in_L_suspect_X0 : ∀ w ∈ wsX00, w ∈ wsL_suspect := by decide +kernel
theorem in_L_suspect_X1 : ∀ w ∈ wsX10, w ∈ wsL_suspect := by decide +kernel
set_option maxHeartbeats 2000000 in
set_option maxRecDepth 100000 in
theorem c_L_suspect (l : Launch) (D : va_G) (cI cZ cJ : ClassId) (sz : Nat) (hT : Nat) (hB : Nat) (hV : Nat) (a : Nat → Int32) (hG : Nat) (tr : Int32) (g : Nat → Int32) (hX : Nat) (ot : Nat → Int64) (q : Int32) (K : Nat) (n : Nat) (hK9 : K ≤ 1120) (hg : ∀ j, j < K → ¬ g j = 0) (hz : K < 1120 → g K = 0) (hn : a 2 = nI n) (hn8 : n ≤ 8) (h1 : ¬ a 0 = 0) (h2 : yVw a q = true) : Mi l D cI cZ cJ yL_suspect wsL_suspect 4 94 sz [.ref hT, .int q, .ref hX] [cT hT hB hV a, cB hB hG tr, cA cI hG 1120 g, cL cJ hX 1 ot] [cT hT hB hV a, cB hB hG tr, cA cI hG 1120 g, cL cJ hX 1 (vp_updL ot 0 ((ySu a (fun n9 => xCnt (pRo g tr (yKn a q) (nI n9) 1) K) q n).1).toInt64)] (0) := by
  refine mi_ofH (by decide) rfl (Nat.le_of_ble_eq_true rfl) (fun p e s m below meth c ls A hx hb hr hml hts hown hlocks hP hK hN hD hA hS hl => ?_)
  have hl : lv_has ls 4 [(0, .ref hT), (1, .int q), (2, .ref hX)] := hl
  refine lv_aload_n hx hb dL_suspect_0 rfl (lv_at hl 2 rfl) ?_
  refine lv_iconst (v := 0) hx hb dL_suspect_1 (by decide) ?_
  refine lv_aload_n hx hb dL_suspect_2 rfl (lv_at hl 0 rfl) ?_
  refine lv_iload_n hx hb dL_suspect_3 rfl (lv_at hl 1 rfl) ?_
  refine rd_V (b := hT) (As := [.int q]) (rest := [.int 0, .ref hX]) ⟨hx, hb, hml, hown, hts⟩ (c_X1_suspect l D cI cZ cJ hT hB hV a hG tr g q K n hK9 hg hz hn hn8 h1 h2) (cwV 1 hts gL_suspect_X1_suspect rfl rfl rfl (by decide +kernel) ⟨Nat.le_of_ble_eq_true rfl, Nat.le_of_ble_eq_true rfl⟩) (hP.sub (ws' := [cT hT hB hV a, cB hB hG tr, cA cI hG 1120 g]) [0, 1, 2] rfl) hK hN (va_recv hK hP (ci := 1) (q0 := 0) rfl rfl) rfl hl.1 rfl (Nat.le_of_ble_eq_true rfl) dL_suspect_4 ⟨Nat.le_of_ble_eq_true rfl, Nat.le_of_ble_eq_true rfl⟩ ?_
  refine lv_i2l (v := (((ySu a (fun n9 => xCnt (pRo g tr (yKn a q) (nI n9) 1) K) q n).1)).toInt64) hx hb dL_suspect_7 rfl ?_
  refine q_last (D := D) hx hb hK hP hD hS 3 2 rfl rfl dL_suspect_8 (fun H locs hP hD hS => ?_)
  have hP : va_P D vwCl [cT hT hB hV a, cB hB hG tr, cA cI hG 1120 g, cL cJ hX 1 (vp_updL ot 0 ((((ySu a (fun n9 => xCnt (pRo g tr (yKn a q) (nI n9) 1) K) q n).1)).toInt64))] H := hP
  have hD : va_D A [cT hT hB hV a, cB hB hG tr, cA cI hG 1120 g, cL cJ hX 1 (vp_updL ot 0 ((((ySu a (fun n9 => xCnt (pRo g tr (yKn a q) (nI n9) 1) K) q n).1)).toInt64))] := hD
  refine lv_goto (tgt := 18) hx hb dL_suspect_9 (by decide) ?_
  refine lv_iconst (v := 0) hx hb dL_suspect_18 (by decide) ?_
  have hP9 : va_P D vwCl [cT hT hB hV a, cB hB hG tr, cA cI hG 1120 g, cL cJ hX 1 (vp_updL ot 0 ((ySu a (fun n9 => xCnt (pRo g tr (yKn a q) (nI n9) 1) K) q n).1).toInt64)] H := by
    have e9_0 : (vp_updL ot 0 ((ySu a (fun n9 => xCnt (pRo g tr (yKn a q) (nI n9) 1) K) q n).1).toInt64) = (vp_updL ot 0 ((((ySu a (fun n9 => xCnt (pRo g tr (yKn a q) (nI n9) 1) K) q n).1)).toInt64)) := by (first | rfl | (simp only [bI]; rfl))
    rw [e9_0]
    exact hP
  exact mi_iret hx hb hr hlocks hS (by rfl) hP9 dL_suspect_19

set_option maxHeartbeats 2000000 in
set_option maxRecDepth 100000 in
theorem f_L_suspect (l : Launch) (D : va_G) (cI cZ cJ : ClassId) (sz : Nat) (hst : l.stackTraces = false) (hT : Nat) (hB : Nat) (hV : Nat) (a : Nat → Int32) (hX : Nat) (ot : Nat → Int64) (q : Int32) (hk : ¬ kYw a q = 0) : Mx l D cI cZ cJ yL_suspect wsL_suspect 9 158 sz [.ref hT, .int q, .ref hX] [cT hT hB hV a, cL cJ hX 1 ot] (kYw a q) := by
  refine mx_ofH (by decide) rfl (Nat.le_of_ble_eq_true rfl) (fun p e s m below meth c ls A hx hb hr hml hts hown hlocks htab hP hK hN hD hA hS hZ hY hXn hl => ?_)
  have hl : lv_has ls 4 [(0, .ref hT), (1, .int q), (2, .ref hX)] := hl
  refine lv_aload_n hx hb dL_suspect_0 rfl (lv_at hl 2 rfl) ?_
  refine lv_iconst (v := 0) hx hb dL_suspect_1 (by decide) ?_
  refine lv_aload_n hx hb dL_suspect_2 rfl (lv_at hl 0 rfl) ?_
  refine lv_iload_n hx hb dL_suspect_3 rfl (lv_at hl 1 rfl) ?_
  refine xc_V (b := hT) (As := [.int q]) (rest := [.int 0, .ref hX]) ⟨hx, hb, hml, hown, hts⟩ (t_X1_suspect l D cI cZ cJ _ hst hT hB hV a q hk) (cwV 1 hts gL_suspect_X1_suspect rfl rfl rfl (by decide +kernel) ⟨Nat.le_of_ble_eq_true rfl, Nat.le_of_ble_eq_true rfl⟩) hP hD hK hN hY hS hA hZ (va_recv hK hP (ci := 1) (q0 := 0) rfl rfl) rfl hl.1 rfl (Nat.le_of_ble_eq_true rfl) dL_suspect_4 ⟨Nat.le_of_ble_eq_true rfl, Nat.le_of_ble_eq_true rfl⟩ [0] [1] rfl rfl 2 rfl (by decide) (by decide) (fun H locs qe ce hP hD hS hq1 hq2 hq3 => ?_)
  have hv9 : kYw a q = 0 ∨ kYw a q = 1 ∨ kYw a q = 2 := kYw_in _ _
  rcases hv9 with h9 | h9 | h9
  · exact absurd h9 hk
  · rw [h9] at hq3
    refine vx_catch (E := "java/lang/IllegalStateException") (name := "java/lang/IllegalStateException") hown [] ⟨0, 9, 12, 19⟩ [⟨0, 9, 15, 21⟩] htab (fun _ h => nomatch h) (by decide) (by decide) (hts (.classLink RL 19 "java/lang/IllegalStateException") (List.mem_of_getElem? (i := 1) rfl)) (va_Nw.use rfl (hN.2.2 _ (List.mem_of_getElem? (i := 0) rfl))) hq1 hq2 hq3 ?_
    refine lv_astore_n (lv' := [(3, .ref qe), (0, .ref hT), (1, .int q), (2, .ref hX)]) hx hb dL_suspect_12 rfl hl (by decide) rfl (fun ls hl => ?_)
    refine lv_iconst (v := 1) hx hb dL_suspect_13 (by decide) ?_
    exact mx_iret hx hb hr hlocks hS h9.symm hP dL_suspect_14
  · rw [h9] at hq3
    refine vx_catch (E := "java/lang/IndexOutOfBoundsException") (name := "java/lang/IndexOutOfBoundsException") hown [⟨0, 9, 12, 19⟩] ⟨0, 9, 15, 21⟩ [] htab (List.forall_mem_cons.mpr ⟨Or.inr ⟨by decide, "java/lang/IllegalStateException", (hts (.classLink RL 19 "java/lang/IllegalStateException") (List.mem_of_getElem? (i := 1) rfl)), hXn.at 3 rfl⟩, (fun _ h => nomatch h)⟩) (by decide) (by decide) (hts (.classLink RL 21 "java/lang/IndexOutOfBoundsException") (List.mem_of_getElem? (i := 2) rfl)) (va_Nw.use rfl (hN.2.2 _ (List.mem_of_getElem? (i := 1) rfl))) hq1 hq2 hq3 ?_
    refine lv_astore_n (lv' := [(3, .ref qe), (0, .ref hT), (1, .int q), (2, .ref hX)]) hx hb dL_suspect_15 rfl hl (by decide) rfl (fun ls hl => ?_)
    refine lv_iconst (v := 2) hx hb dL_suspect_16 (by decide) ?_
    exact mx_iret hx hb hr hlocks hS h9.symm hP dL_suspect_17

theorem in_L_bestLook_X0 : ∀ w ∈ wsX00, w ∈ wsL_bestLook := by decide +kernel
theorem in_L_bestLook_X1 : ∀ w ∈ wsX10, w ∈ wsL_bestLook := by decide +kernel
set_option maxHeartbeats 2000000 in
set_option maxRecDepth 100000 in
theorem c_L_bestLook (l : Launch) (D : va_G) (cI cZ cJ : ClassId) (sz : Nat) (hT : Nat) (hB : Nat) (hV : Nat) (a : Nat → Int32) (hG : Nat) (tr : Int32) (g : Nat → Int32) (hX : Nat) (ot : Nat → Int64) (K : Nat) (n : Nat) (hK9 : K ≤ 1120) (hg : ∀ j, j < K → ¬ g j = 0) (hz : K < 1120 → g K = 0) (hn : a 2 = nI n) (hn8 : n ≤ 8) (h1 : ¬ a 0 = 0) : Mi l D cI cZ cJ yL_bestLook wsL_bestLook 4 95 sz [.ref hT, .ref hX] [cT hT hB hV a, cB hB hG tr, cA cI hG 1120 g, cL cJ hX 1 ot] [cT hT hB hV a, cB hB hG tr, cA cI hG 1120 g, cL cJ hX 1 (vp_updL ot 0 ((yBe a (fun n9 => xCnt (pRo g tr (yKn a (a 4)) (nI n9) 1) K) (xCnt (pAg g tr (yKn a (a 4))) K) n).1).toInt64)] (0) := by
  refine mi_ofH (by decide) rfl (Nat.le_of_ble_eq_true rfl) (fun p e s m below meth c ls A hx hb hr hml hts hown hlocks hP hK hN hD hA hS hl => ?_)
  have hl : lv_has ls 3 [(0, .ref hT), (1, .ref hX)] := hl
  refine lv_aload_n hx hb dL_bestLook_0 rfl (lv_at hl 1 rfl) ?_
  refine lv_iconst (v := 0) hx hb dL_bestLook_1 (by decide) ?_
  refine lv_aload_n hx hb dL_bestLook_2 rfl (lv_at hl 0 rfl) ?_
  refine rd_V (b := hT) (As := []) (rest := [.int 0, .ref hX]) ⟨hx, hb, hml, hown, hts⟩ (c_X1_bestLook l D cI cZ cJ hT hB hV a hG tr g K n hK9 hg hz hn hn8 h1) (cwV 0 hts gL_bestLook_X1_bestLook rfl rfl rfl (by decide +kernel) ⟨Nat.le_of_ble_eq_true rfl, Nat.le_of_ble_eq_true rfl⟩) (hP.sub (ws' := [cT hT hB hV a, cB hB hG tr, cA cI hG 1120 g]) [0, 1, 2] rfl) hK hN (va_recv hK hP (ci := 1) (q0 := 0) rfl rfl) rfl hl.1 rfl (Nat.le_of_ble_eq_true rfl) dL_bestLook_3 ⟨Nat.le_of_ble_eq_true rfl, Nat.le_of_ble_eq_true rfl⟩ ?_
  refine lv_i2l (v := (((yBe a (fun n9 => xCnt (pRo g tr (yKn a (a 4)) (nI n9) 1) K) (xCnt (pAg g tr (yKn a (a 4))) K) n).1)).toInt64) hx hb dL_bestLook_6 rfl ?_
  refine q_last (D := D) hx hb hK hP hD hS 3 2 rfl rfl dL_bestLook_7 (fun H locs hP hD hS => ?_)
  have hP : va_P D vwCl [cT hT hB hV a, cB hB hG tr, cA cI hG 1120 g, cL cJ hX 1 (vp_updL ot 0 ((((yBe a (fun n9 => xCnt (pRo g tr (yKn a (a 4)) (nI n9) 1) K) (xCnt (pAg g tr (yKn a (a 4))) K) n).1)).toInt64))] H := hP
  have hD : va_D A [cT hT hB hV a, cB hB hG tr, cA cI hG 1120 g, cL cJ hX 1 (vp_updL ot 0 ((((yBe a (fun n9 => xCnt (pRo g tr (yKn a (a 4)) (nI n9) 1) K) (xCnt (pAg g tr (yKn a (a 4))) K) n).1)).toInt64))] := hD
  refine lv_goto (tgt := 14) hx hb dL_bestLook_8 (by decide) ?_
  refine lv_iconst (v := 0) hx hb dL_bestLook_14 (by decide) ?_
  have hP9 : va_P D vwCl [cT hT hB hV a, cB hB hG tr, cA cI hG 1120 g, cL cJ hX 1 (vp_updL ot 0 ((yBe a (fun n9 => xCnt (pRo g tr (yKn a (a 4)) (nI n9) 1) K) (xCnt (pAg g tr (yKn a (a 4))) K) n).1).toInt64)] H := by
    have e9_0 : (vp_updL ot 0 ((yBe a (fun n9 => xCnt (pRo g tr (yKn a (a 4)) (nI n9) 1) K) (xCnt (pAg g tr (yKn a (a 4))) K) n).1).toInt64) = (vp_updL ot 0 ((((yBe a (fun n9 => xCnt (pRo g tr (yKn a (a 4)) (nI n9) 1) K) (xCnt (pAg g tr (yKn a (a 4))) K) n).1)).toInt64)) := by (first | rfl | (simp only [bI]; rfl))
    rw [e9_0]
    exact hP
  exact mi_iret hx hb hr hlocks hS (by rfl) hP9 dL_bestLook_15

set_option maxHeartbeats 2000000 in
set_option maxRecDepth 100000 in
theorem f_L_bestLook (l : Launch) (D : va_G) (cI cZ cJ : ClassId) (sz : Nat) (hst : l.stackTraces = false) (hT : Nat) (hB : Nat) (hV : Nat) (a : Nat → Int32) (hX : Nat) (ot : Nat → Int64) (hk : ¬ kYg a = 0) : Mx l D cI cZ cJ yL_bestLook wsL_bestLook 8 137 sz [.ref hT, .ref hX] [cT hT hB hV a, cL cJ hX 1 ot] (kYg a) := by
  refine mx_ofH (by decide) rfl (Nat.le_of_ble_eq_true rfl) (fun p e s m below meth c ls A hx hb hr hml hts hown hlocks htab hP hK hN hD hA hS hZ hY hXn hl => ?_)
  have hl : lv_has ls 3 [(0, .ref hT), (1, .ref hX)] := hl
  refine lv_aload_n hx hb dL_bestLook_0 rfl (lv_at hl 1 rfl) ?_
  refine lv_iconst (v := 0) hx hb dL_bestLook_1 (by decide) ?_
  refine lv_aload_n hx hb dL_bestLook_2 rfl (lv_at hl 0 rfl) ?_
  refine xc_V (b := hT) (As := []) (rest := [.int 0, .ref hX]) ⟨hx, hb, hml, hown, hts⟩ (t_X1_bestLook l D cI cZ cJ _ hst hT hB hV a hk) (cwV 0 hts gL_bestLook_X1_bestLook rfl rfl rfl (by decide +kernel) ⟨Nat.le_of_ble_eq_true rfl, Nat.le_of_ble_eq_true rfl⟩) hP hD hK hN hY hS hA hZ (va_recv hK hP (ci := 1) (q0 := 0) rfl rfl) rfl hl.1 rfl (Nat.le_of_ble_eq_true rfl) dL_bestLook_3 ⟨Nat.le_of_ble_eq_true rfl, Nat.le_of_ble_eq_true rfl⟩ [0] [1] rfl rfl 2 rfl (by decide) (by decide) (fun H locs qe ce hP hD hS hq1 hq2 hq3 => ?_)
  have hv9 : kYg a = 0 ∨ kYg a = 1 := kYg_in _
  rcases hv9 with h9 | h9
  · exact absurd h9 hk
  · rw [h9] at hq3
    refine vx_catch (E := "java/lang/IllegalStateException") (name := "java/lang/IllegalStateException") hown [] ⟨0, 8, 11, 19⟩ [] htab (fun _ h => nomatch h) (by decide) (by decide) (hts (.classLink RL 19 "java/lang/IllegalStateException") (List.mem_of_getElem? (i := 1) rfl)) (va_Nw.use rfl (hN.2.2 _ (List.mem_of_getElem? (i := 0) rfl))) hq1 hq2 hq3 ?_
    refine lv_astore_n (lv' := [(2, .ref qe), (0, .ref hT), (1, .ref hX)]) hx hb dL_bestLook_11 rfl hl (by decide) rfl (fun ls hl => ?_)
    refine lv_iconst (v := 1) hx hb dL_bestLook_12 (by decide) ?_
    exact mx_iret hx hb hr hlocks hS h9.symm hP dL_bestLook_13

theorem in_L_isPossible_X0 : ∀ w ∈ wsX00, w ∈ wsL_isPossible := by decide +kernel
theorem in_L_isPossible_X1 : ∀ w ∈ wsX10, w ∈ wsL_isPossible := by decide +kernel
set_option maxHeartbeats 2000000 in
set_option maxRecDepth 100000 in
theorem c_L_isPossible (l : Launch) (D : va_G) (cI cZ cJ : ClassId) (sz : Nat) (hT : Nat) (hB : Nat) (hV : Nat) (a : Nat → Int32) (hG : Nat) (tr : Int32) (g : Nat → Int32) (hX : Nat) (ot : Nat → Int64) (q : Int32) (t : Int32) (r : Int32) (u : Int32) (K : Nat) (hK9 : K ≤ 1120) (hg : ∀ j, j < K → ¬ g j = 0) (hz : K < 1120 → g K = 0) (h1 : ¬ a 0 = 0) (h2 : yVw a q = true) (h3 : yPl a r = true) (h4 : yPl a u = true) : Mi l D cI cZ cJ yL_isPossible wsL_isPossible 4 87 sz [.ref hT, .int q, .int t, .int r, .int u, .ref hX] [cT hT hB hV a, cB hB hG tr, cA cI hG 1120 g, cL cJ hX 1 ot] [cT hT hB hV a, cB hB hG tr, cA cI hG 1120 g, cL cJ hX 1 (vp_updL ot 0 (bI (decide (t &&& (-256) = 0) && (yHs g (yWo t r u) K && yAgr (yWo t r u) tr (yKn a q)))).toInt64)] (0) := by
  refine mi_ofH (by decide) rfl (Nat.le_of_ble_eq_true rfl) (fun p e s m below meth c ls A hx hb hr hml hts hown hlocks hP hK hN hD hA hS hl => ?_)
  have hl : lv_has ls 7 [(0, .ref hT), (1, .int q), (2, .int t), (3, .int r), (4, .int u), (5, .ref hX)] := hl
  refine lv_aload hx hb dL_isPossible_0 (lv_at hl 5 rfl) ?_
  refine lv_iconst (v := 0) hx hb dL_isPossible_2 (by decide) ?_
  refine lv_aload_n hx hb dL_isPossible_3 rfl (lv_at hl 0 rfl) ?_
  refine lv_iload_n hx hb dL_isPossible_4 rfl (lv_at hl 1 rfl) ?_
  refine lv_iload_n hx hb dL_isPossible_5 rfl (lv_at hl 2 rfl) ?_
  refine lv_iload_n hx hb dL_isPossible_6 rfl (lv_at hl 3 rfl) ?_
  refine lv_iload hx hb dL_isPossible_7 (lv_at hl 4 rfl) ?_
  refine rd_V (b := hT) (As := [.int q, .int t, .int r, .int u]) (rest := [.int 0, .ref hX]) ⟨hx, hb, hml, hown, hts⟩ (c_X1_isPossible l D cI cZ cJ hT hB hV a hG tr g q t r u K hK9 hg hz h1 h2 h3 h4) (cwV 4 hts gL_isPossible_X1_isPossible rfl rfl rfl (by decide +kernel) ⟨Nat.le_of_ble_eq_true rfl, Nat.le_of_ble_eq_true rfl⟩) (hP.sub (ws' := [cT hT hB hV a, cB hB hG tr, cA cI hG 1120 g]) [0, 1, 2] rfl) hK hN (va_recv hK hP (ci := 1) (q0 := 0) rfl rfl) rfl hl.1 rfl (Nat.le_of_ble_eq_true rfl) dL_isPossible_9 ⟨Nat.le_of_ble_eq_true rfl, Nat.le_of_ble_eq_true rfl⟩ ?_
  refine lv_if_eq (tgt := 19) hx hb dL_isPossible_12 (by decide) (fun c_1 => ?_) (fun c_1 => ?_)
  · have c_1 : (decide (t &&& (-256) = 0) && (yHs g (yWo t r u) K && yAgr (yWo t r u) tr (yKn a q))) = false := bI_0 c_1
    refine lv_lconst (v := 0) hx hb dL_isPossible_19 (by decide) ?_
    refine q_last (D := D) hx hb hK hP hD hS 3 2 rfl rfl dL_isPossible_20 (fun H locs hP hD hS => ?_)
    have hP : va_P D vwCl [cT hT hB hV a, cB hB hG tr, cA cI hG 1120 g, cL cJ hX 1 (vp_updL ot 0 (0 : Int64))] H := hP
    have hD : va_D A [cT hT hB hV a, cB hB hG tr, cA cI hG 1120 g, cL cJ hX 1 (vp_updL ot 0 (0 : Int64))] := hD
    refine lv_goto (tgt := 32) hx hb dL_isPossible_21 (by decide) ?_
    refine lv_iconst (v := 0) hx hb dL_isPossible_32 (by decide) ?_
    have hP9 : va_P D vwCl [cT hT hB hV a, cB hB hG tr, cA cI hG 1120 g, cL cJ hX 1 (vp_updL ot 0 (bI (decide (t &&& (-256) = 0) && (yHs g (yWo t r u) K && yAgr (yWo t r u) tr (yKn a q)))).toInt64)] H := by
      have e9_0 : (vp_updL ot 0 (bI (decide (t &&& (-256) = 0) && (yHs g (yWo t r u) K && yAgr (yWo t r u) tr (yKn a q)))).toInt64) = (vp_updL ot 0 (0 : Int64)) := by (first | rfl | (simp only [c_1]; rfl))
      rw [e9_0]
      exact hP
    exact mi_iret hx hb hr hlocks hS (by rfl) hP9 dL_isPossible_33
  · have c_1 : (decide (t &&& (-256) = 0) && (yHs g (yWo t r u) K && yAgr (yWo t r u) tr (yKn a q))) = true := bI_1 c_1
    refine lv_lconst (v := 1) hx hb dL_isPossible_15 (by decide) ?_
    refine lv_goto (tgt := 20) hx hb dL_isPossible_16 (by decide) ?_
    refine q_last (D := D) hx hb hK hP hD hS 3 2 rfl rfl dL_isPossible_20 (fun H locs hP hD hS => ?_)
    have hP : va_P D vwCl [cT hT hB hV a, cB hB hG tr, cA cI hG 1120 g, cL cJ hX 1 (vp_updL ot 0 (1 : Int64))] H := hP
    have hD : va_D A [cT hT hB hV a, cB hB hG tr, cA cI hG 1120 g, cL cJ hX 1 (vp_updL ot 0 (1 : Int64))] := hD
    refine lv_goto (tgt := 32) hx hb dL_isPossible_21 (by decide) ?_
    refine lv_iconst (v := 0) hx hb dL_isPossible_32 (by decide) ?_
    have hP9 : va_P D vwCl [cT hT hB hV a, cB hB hG tr, cA cI hG 1120 g, cL cJ hX 1 (vp_updL ot 0 (bI (decide (t &&& (-256) = 0) && (yHs g (yWo t r u) K && yAgr (yWo t r u) tr (yKn a q)))).toInt64)] H := by
      have e9_0 : (vp_updL ot 0 (bI (decide (t &&& (-256) = 0) && (yHs g (yWo t r u) K && yAgr (yWo t r u) tr (yKn a q)))).toInt64) = (vp_updL ot 0 (1 : Int64)) := by (first | rfl | (simp only [c_1]; rfl))
      rw [e9_0]
      exact hP
    exact mi_iret hx hb hr hlocks hS (by rfl) hP9 dL_isPossible_33

set_option maxHeartbeats 2000000 in
set_option maxRecDepth 100000 in
theorem f_L_isPossible (l : Launch) (D : va_G) (cI cZ cJ : ClassId) (sz : Nat) (hst : l.stackTraces = false) (hT : Nat) (hB : Nat) (hV : Nat) (a : Nat → Int32) (hX : Nat) (ot : Nat → Int64) (q : Int32) (t : Int32) (r : Int32) (u : Int32) (hk : ¬ kYi a q r u = 0) : Mx l D cI cZ cJ yL_isPossible wsL_isPossible 9 156 sz [.ref hT, .int q, .int t, .int r, .int u, .ref hX] [cT hT hB hV a, cL cJ hX 1 ot] (kYi a q r u) := by
  refine mx_ofH (by decide) rfl (Nat.le_of_ble_eq_true rfl) (fun p e s m below meth c ls A hx hb hr hml hts hown hlocks htab hP hK hN hD hA hS hZ hY hXn hl => ?_)
  have hl : lv_has ls 7 [(0, .ref hT), (1, .int q), (2, .int t), (3, .int r), (4, .int u), (5, .ref hX)] := hl
  refine lv_aload hx hb dL_isPossible_0 (lv_at hl 5 rfl) ?_
  refine lv_iconst (v := 0) hx hb dL_isPossible_2 (by decide) ?_
  refine lv_aload_n hx hb dL_isPossible_3 rfl (lv_at hl 0 rfl) ?_
  refine lv_iload_n hx hb dL_isPossible_4 rfl (lv_at hl 1 rfl) ?_
  refine lv_iload_n hx hb dL_isPossible_5 rfl (lv_at hl 2 rfl) ?_
  refine lv_iload_n hx hb dL_isPossible_6 rfl (lv_at hl 3 rfl) ?_
  refine lv_iload hx hb dL_isPossible_7 (lv_at hl 4 rfl) ?_
  refine xc_V (b := hT) (As := [.int q, .int t, .int r, .int u]) (rest := [.int 0, .ref hX]) ⟨hx, hb, hml, hown, hts⟩ (t_X1_isPossible l D cI cZ cJ _ hst hT hB hV a q t r u hk) (cwV 4 hts gL_isPossible_X1_isPossible rfl rfl rfl (by decide +kernel) ⟨Nat.le_of_ble_eq_true rfl, Nat.le_of_ble_eq_true rfl⟩) hP hD hK hN hY hS hA hZ (va_recv hK hP (ci := 1) (q0 := 0) rfl rfl) rfl hl.1 rfl (Nat.le_of_ble_eq_true rfl) dL_isPossible_9 ⟨Nat.le_of_ble_eq_true rfl, Nat.le_of_ble_eq_true rfl⟩ [0] [1] rfl rfl 2 rfl (by decide) (by decide) (fun H locs qe ce hP hD hS hq1 hq2 hq3 => ?_)
  have hv9 : kYi a q r u = 0 ∨ kYi a q r u = 1 ∨ kYi a q r u = 2 := kYi_in _ _ _ _
  rcases hv9 with h9 | h9 | h9
  · exact absurd h9 hk
  · rw [h9] at hq3
    refine vx_catch (E := "java/lang/IllegalStateException") (name := "java/lang/IllegalStateException") hown [] ⟨0, 21, 24, 19⟩ [⟨0, 21, 28, 21⟩] htab (fun _ h => nomatch h) (by decide) (by decide) (hts (.classLink RL 19 "java/lang/IllegalStateException") (List.mem_of_getElem? (i := 1) rfl)) (va_Nw.use rfl (hN.2.2 _ (List.mem_of_getElem? (i := 0) rfl))) hq1 hq2 hq3 ?_
    refine lv_astore (lv' := [(6, .ref qe), (0, .ref hT), (1, .int q), (2, .int t), (3, .int r), (4, .int u), (5, .ref hX)]) hx hb dL_isPossible_24 hl (by decide) rfl (fun ls hl => ?_)
    refine lv_iconst (v := 1) hx hb dL_isPossible_26 (by decide) ?_
    exact mx_iret hx hb hr hlocks hS h9.symm hP dL_isPossible_27
  · rw [h9] at hq3
    refine vx_catch (E := "java/lang/IndexOutOfBoundsException") (name := "java/lang/IndexOutOfBoundsException") hown [⟨0, 21, 24, 19⟩] ⟨0, 21, 28, 21⟩ [] htab (List.forall_mem_cons.mpr ⟨Or.inr ⟨by decide, "java/lang/IllegalStateException", (hts (.classLink RL 19 "java/lang/IllegalStateException") (List.mem_of_getElem? (i := 1) rfl)), hXn.at 3 rfl⟩, (fun _ h => nomatch h)⟩) (by decide) (by decide) (hts (.classLink RL 21 "java/lang/IndexOutOfBoundsException") (List.mem_of_getElem? (i := 2) rfl)) (va_Nw.use rfl (hN.2.2 _ (List.mem_of_getElem? (i := 1) rfl))) hq1 hq2 hq3 ?_
    refine lv_astore (lv' := [(6, .ref qe), (0, .ref hT), (1, .int q), (2, .int t), (3, .int r), (4, .int u), (5, .ref hX)]) hx hb dL_isPossible_28 hl (by decide) rfl (fun ls hl => ?_)
    refine lv_iconst (v := 2) hx hb dL_isPossible_30 (by decide) ?_
    exact mx_iret hx hb hr hlocks hS h9.symm hP dL_isPossible_31
