/-! the law's loop -/
section LawLoop
variable {p : Program} {l : Launch} {e : Env} {s : State} {m : MethodId} {args : Array Value} {below : List Frame} {meth : Method} {c : Code} {cells slots : Nat} {Q : State → Prop} {D : va_G} {cI cZ cJ : ClassId} {A : Nat → Prop} {b L hT hB hV hG hX hM hO hW hY i : Nat} {xs : Nat → Int32} {a g v a' mn : Nat → Int32} {tr th : Int32} {ot : Nat → Int64} {o : Nat → Bool} {H : Heap} {locs : List Loc} {ls : Array Slot}
set_option maxHeartbeats 1000000 in
theorem arm_phase (G : LG p l s m args c D cI cZ cJ A b L xs) (hcs : cells + 1 ≤ 1046 ∧ slots + 6 ≤ 25831) (J : JN p l e s m args below meth c cells slots Q D cI cZ cJ A b hT hB hV hG hX hM hO hW hY i) (hi : i + 4 < L) (hI : Inv a a' g tr v o) (hP : va_P D vwCl (LX cI cZ cJ hT hB hV hG hX hM hO hW hY a tr g v ot th a' o v mn) H) (hD : va_D A (LX cI cZ cJ hT hB hV hG hX hM hO hW hY a tr g v ot th a' o v mn)) (hS : va_S A s.heap H locs) (hl : lv_has ls 7 [(0, .ref b), (1, .ref hT), (2, .ref hM), (3, .ref hX), (4, .int (nI i))]) : W p l e room_1 s m args below meth c H locs cells slots Q (F0 m 232 ls []) := by
  obtain ⟨hx, hb, hml, hown, htL, hK, hN, hY9, hNX, hst, hX9, hbl, hbA, hA, hZ, hL9⟩ := id G
  have hf0 : cells ≤ 1046 ∧ slots ≤ 25831 := by omega
  refine lv_aload_n hx hb dL_law_232 rfl (lv_at hl 1 rfl) ?_
  refine rd_V (b := hT) (As := []) (rest := []) ⟨hx, hb, hml, hown, htL⟩ (c_X1_phase l D cI cZ cJ hT hB hV a) (cwV 0 htL gL_law_X1_phase rfl rfl rfl (by decide +kernel) ⟨Nat.le_of_ble_eq_true rfl, Nat.le_of_ble_eq_true rfl⟩) (hP.sub (ws' := [cT hT hB hV a]) [0] rfl) hK hN (va_recv hK hP (ci := 1) (q0 := 0) rfl rfl) rfl hl.1 rfl (Nat.le_of_ble_eq_true rfl) dL_law_233 hf0 ?_
  refine lv_aload_n hx hb dL_law_236 rfl (lv_at hl 2 rfl) ?_
  refine mi_V (b := hM) (As := []) (rest := [.int (a 0)]) (W2 := LX cI cZ cJ hT hB hV hG hX hM hO hW hY a tr g v ot 0 a' o v mn) ⟨hx, hb, hml, hown, htL⟩ (c_X2_phase l D cI cZ cJ _ hM hO hW hY th a') (cwV 0 htL gL_law_X2_phase rfl rfl rfl (by decide +kernel) ⟨Nat.le_of_ble_eq_true rfl, Nat.le_of_ble_eq_true rfl⟩) hP hD hK hN hS hA (va_recv hK hP (ci := 2) (q0 := 5) rfl rfl) rfl hl.1 rfl (Nat.le_of_ble_eq_true rfl) dL_law_237 hf0 [5] [0, 1, 2, 3, 4, 6, 7, 8] rfl rfl rfl (by intro i9 h9; simp only [List.mem_cons, List.not_mem_nil, or_false] at h9; rcases h9 with rfl | rfl | rfl | rfl | rfl | rfl | rfl | rfl <;> rfl) rfl 9 rfl (by decide) (by decide) (fun H locs hP hD hS => ?_)
  refine lv_icmp_eq (tgt := 1408) hx hb dL_law_240 (by decide) (fun _ => ?_) (fun c1 => absurd (iv_0 hI).symm c1)
  refine W.widen (k := cells + 1) (n := slots + 6) (by omega) (by omega) ?_
  exact J a tr g v ot 0 a' o mn H locs ls hI hP hD hS hl
end LawLoop
theorem sel_n (z : Int32) : ∃ j : Nat, j < 32 ∧ z &&& 31 = nI j := by
  obtain ⟨w, rfl⟩ := i_nat z
  refine ⟨w % 32, Nat.mod_lt _ (by decide), ?_⟩
  rw [show (31 : Int32) = nI (2 ^ 5 - 1) from rfl, nI_and, Nat.and_two_pow_sub_one_eq_mod]
theorem head_n {i L : Nat} (hL : L ≤ 2560) (hi : i ≤ L) (h : ¬ Int32.ofNat L - 5 < nI i) : i + 5 ≤ L := by
  have h2 : nI i ≤ nI L - nI 5 := Int32.not_lt.mp h
  rcases Nat.lt_or_ge L 5 with h5 | h5
  · have h0 : (0 : Int32) ≤ nI i := nI_pos' (by omega)
    have h3 := Int32.le_trans h0 h2
    have : L = 0 ∨ L = 1 ∨ L = 2 ∨ L = 3 ∨ L = 4 := by omega
    rcases this with rfl | rfl | rfl | rfl | rfl <;> exact absurd h3 (by decide)
  · rw [pk_sub h5] at h2
    have := (nI_leI (by omega) (by omega)).mp h2
    omega
theorem out_n : ∀ j, j < 32 → 22 ≤ j → (21 : Int) < (nI j).toInt := by
  have k : ∀ j : Fin 32, 22 ≤ j.val → (21 : Int) < (nI j.val).toInt := by decide +kernel
  exact fun j h1 h2 => k ⟨j, h1⟩ h2
set_option maxHeartbeats 4000000 in
set_option maxRecDepth 100000 in
theorem law_loop {p : Program} {l : Launch} {e : Env} {s : State} {m : MethodId} {below : List Frame} {meth : Method} {c : Code} {D : va_G} {cI cZ cJ : ClassId} {b L hT hB hV hG hX hM hO hW hY : Nat} {xs : Nat → Int32} (G : LG p l s m #[Value.ref b] c D cI cZ cJ (fun q : Nat => s.heap.size ≤ q) b L xs) (hr : meth.sig.returnType = ret) (hlocks : meth.locks = false) :
    ∀ (n t i : Nat), i = 5 * t → i ≤ L → L + 1 ≤ i + n → ∀ (a : Nat → Int32) (tr : Int32) (g v : Nat → Int32) (ot : Nat → Int64) (th : Int32) (a' : Nat → Int32) (o : Nat → Bool) (mn : Nat → Int32) (H : Heap) (locs : List Loc) (ls : Array Slot), Inv a a' g tr v o → va_P D vwCl (LX cI cZ cJ hT hB hV hG hX hM hO hW hY a tr g v ot th a' o v mn) H → va_D (fun q : Nat => s.heap.size ≤ q) (LX cI cZ cJ hT hB hV hG hX hM hO hW hY a tr g v ot th a' o v mn) → va_S (fun q : Nat => s.heap.size ≤ q) s.heap H locs → lv_has ls 7 [(0, .ref b), (1, .ref hT), (2, .ref hM), (3, .ref hX), (4, .int (nI i))] → W p l e room_1 s m #[Value.ref b] below meth c H locs (9 + t) (17561 + 6 * t) (lw_Z below #[Value.ref b] s) (F0 m 23 ls []) := by
  intro n
  induction n with
  | zero =>
    intro t i _ h1 h2
    exact absurd h2 (by omega)
  | succ n ih =>
    intro t i hit hi hin a tr g v ot th a' o mn H locs ls hI hP hD hS hl
    obtain ⟨hx, hb, hml, hown, htL, hK, hN, hY9, hNX, hst, hX9, hbl, hbA, hA, hZ, hL9⟩ := id G
    refine lv_iload hx hb dL_law_23 (lv_at hl 4 rfl) ?_
    refine lv_aload_n hx hb dL_law_25 rfl (lv_at hl 0 rfl) ?_
    refine va_slen hx hb hX9 hbl hbA hS dL_law_26 ?_
    refine lv_iconst (v := 5) hx hb dL_law_27 (by decide) ?_
    refine lv_isub hx hb dL_law_28 ?_
    refine lv_icmp_gt (tgt := 1414) hx hb dL_law_29 (by decide) (fun c1 => ?_) (fun c1 => ?_)
    · refine lv_iconst (v := 1) hx hb dL_law_1414 (by decide) ?_
      refine va_forget (fun q hq => hS.2.2 q hq) ?_
      refine W.widen (k := 1046) (n := 25831) (by omega) (by omega) ?_
      exact lw_ret hx hb hr hlocks dL_law_1415
    · have h5 := head_n hL9 hi c1
      have hi4 : i + 4 < L := by omega
      refine lv_aload_n hx hb dL_law_32 rfl (lv_at hl 0 rfl) ?_
      refine lv_iload hx hb dL_law_33 (lv_at hl 4 rfl) ?_
      refine va_sld hx hb hX9 hbl hbA hS (vp_in_nI (show i < L by omega) (by omega)) dL_law_35 ?_
      refine lv_bipush (v := 31) hx hb dL_law_36 (by decide) ?_
      refine lv_iand hx hb dL_law_38 ?_
      obtain ⟨j, hj, ej⟩ := sel_n (xs (nI i).toNatClampNeg)
      rw [ej]
      have hcs : 9 + t + 1 ≤ 1046 ∧ 17561 + 6 * t + 6 ≤ 25831 := by omega
      have J : JN p l e s m #[Value.ref b] below meth c (9 + t) (17561 + 6 * t) (lw_Z below #[Value.ref b] s) D cI cZ cJ (fun q : Nat => s.heap.size ≤ q) b hT hB hV hG hX hM hO hW hY i := by
        intro a tr g v ot th a' o mn H locs ls hI hP hD hS hl
        refine lv_iinc (v := nI (i + 5)) (lv' := [(4, .int (nI (i + 5))), (0, .ref b), (1, .ref hT), (2, .ref hM), (3, .ref hX)]) hx hb dL_law_1408 hl (k := 4) rfl (nI_add i 5) (by decide) rfl (fun ls hl => ?_)
        refine lv_goto (tgt := 23) hx hb dL_law_1411 (by decide) ?_
        have h9 := ih (t + 1) (i + 5) (by omega) h5 (by omega) a tr g v ot th a' o mn H locs ls hI hP hD hS (lv_sub hl [1, 2, 3, 4, 0] rfl)
        rw [show 9 + (t + 1) = 9 + t + 1 by omega, show 17561 + 6 * (t + 1) = 17561 + 6 * t + 6 by omega] at h9
        exact h9
      have hj9 : j = 0 ∨ j = 1 ∨ j = 2 ∨ j = 3 ∨ j = 4 ∨ j = 5 ∨ j = 6 ∨ j = 7 ∨ j = 8 ∨ j = 9 ∨ j = 10 ∨ j = 11 ∨ j = 12 ∨ j = 13 ∨ j = 14 ∨ j = 15 ∨ j = 16 ∨ j = 17 ∨ j = 18 ∨ j = 19 ∨ j = 20 ∨ j = 21 ∨ 22 ≤ j := by omega
      rcases hj9 with rfl | rfl | rfl | rfl | rfl | rfl | rfl | rfl | rfl | rfl | rfl | rfl | rfl | rfl | rfl | rfl | rfl | rfl | rfl | rfl | rfl | rfl | h22
      · refine lv_tableIn (off := 101) (tgt := 140) hx hb dL_law_39 (by decide) (by decide) (by decide) (by decide) ?_
        exact arm_start G hcs J hi4 hI hP hD hS hl
      · refine lv_tableIn (off := 193) (tgt := 232) hx hb dL_law_39 (by decide) (by decide) (by decide) (by decide) ?_
        exact arm_phase G hcs J hi4 hI hP hD hS hl
      · refine lv_tableIn (off := 206) (tgt := 245) hx hb dL_law_39 (by decide) (by decide) (by decide) (by decide) ?_
        exact arm_claim G hcs J hi4 hI hP hD hS hl
      · refine lv_tableIn (off := 286) (tgt := 325) hx hb dL_law_39 (by decide) (by decide) (by decide) (by decide) ?_
        exact arm_claimAmong G hcs J hi4 hI hP hD hS hl
      · refine lv_tableIn (off := 354) (tgt := 393) hx hb dL_law_39 (by decide) (by decide) (by decide) (by decide) ?_
        exact arm_vote G hcs J hi4 hI hP hD hS hl
      · refine lv_tableIn (off := 422) (tgt := 461) hx hb dL_law_39 (by decide) (by decide) (by decide) (by decide) ?_
        exact arm_closeVote G hcs J hi4 hI hP hD hS hl
      · refine lv_tableIn (off := 466) (tgt := 505) hx hb dL_law_39 (by decide) (by decide) (by decide) (by decide) ?_
        exact arm_protect G hcs J hi4 hI hP hD hS hl
      · refine lv_tableIn (off := 522) (tgt := 561) hx hb dL_law_39 (by decide) (by decide) (by decide) (by decide) ?_
        exact arm_attack G hcs J hi4 hI hP hD hS hl
      · refine lv_tableIn (off := 578) (tgt := 617) hx hb dL_law_39 (by decide) (by decide) (by decide) (by decide) ?_
        exact arm_look G hcs J hi4 hI hP hD hS hl
      · refine lv_tableIn (off := 634) (tgt := 673) hx hb dL_law_39 (by decide) (by decide) (by decide) (by decide) ?_
        exact arm_endNight G hcs J hi4 hI hP hD hS hl
      · refine lv_tableIn (off := 678) (tgt := 717) hx hb dL_law_39 (by decide) (by decide) (by decide) (by decide) ?_
        exact arm_day G hcs J hi4 hI hP hD hS hl
      · refine lv_tableIn (off := 722) (tgt := 761) hx hb dL_law_39 (by decide) (by decide) (by decide) (by decide) ?_
        exact arm_alive G hcs J hi4 hI hP hD hS hl
      · refine lv_tableIn (off := 766) (tgt := 805) hx hb dL_law_39 (by decide) (by decide) (by decide) (by decide) ?_
        exact arm_votesFor G hcs J hi4 hI hP hD hS hl
      · refine lv_tableIn (off := 822) (tgt := 861) hx hb dL_law_39 (by decide) (by decide) (by decide) (by decide) ?_
        exact arm_lookedAt G hcs J hi4 hI hP hD hS hl
      · refine lv_tableIn (off := 866) (tgt := 905) hx hb dL_law_39 (by decide) (by decide) (by decide) (by decide) ?_
        exact arm_worlds G hcs J hi4 hI hP hD hS hl
      · refine lv_tableIn (off := 922) (tgt := 961) hx hb dL_law_39 (by decide) (by decide) (by decide) (by decide) ?_
        exact arm_worldsWith G hcs J hi4 hI hP hD hS hl
      · refine lv_tableIn (off := 1002) (tgt := 1041) hx hb dL_law_39 (by decide) (by decide) (by decide) (by decide) ?_
        exact arm_sureWitches G hcs J hi4 hI hP hD hS hl
      · refine lv_tableIn (off := 1058) (tgt := 1097) hx hb dL_law_39 (by decide) (by decide) (by decide) (by decide) ?_
        exact arm_sureHonest G hcs J hi4 hI hP hD hS hl
      · refine lv_tableIn (off := 1114) (tgt := 1153) hx hb dL_law_39 (by decide) (by decide) (by decide) (by decide) ?_
        exact arm_witchSets G hcs J hi4 hI hP hD hS hl
      · refine lv_tableIn (off := 1170) (tgt := 1209) hx hb dL_law_39 (by decide) (by decide) (by decide) (by decide) ?_
        exact arm_suspect G hcs J hi4 hI hP hD hS hl
      · refine lv_tableIn (off := 1226) (tgt := 1265) hx hb dL_law_39 (by decide) (by decide) (by decide) (by decide) ?_
        exact arm_bestLook G hcs J hi4 hI hP hD hS hl
      · refine lv_tableIn (off := 1270) (tgt := 1309) hx hb dL_law_39 (by decide) (by decide) (by decide) (by decide) ?_
        exact arm_isPossible G hcs J hi4 hI hP hD hS hl
      · refine lv_tableOut (tgt := 1408) hx hb dL_law_39 (Or.inr (out_n j hj h22)) (by decide) ?_
        refine W.widen (k := 9 + t + 1) (n := 17561 + 6 * t + 6) (by omega) (by omega) ?_
        exact J a tr g v ot th a' o mn H locs ls hI hP hD hS hl
