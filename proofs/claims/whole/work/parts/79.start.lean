set_option maxHeartbeats 1000000 in
set_option maxRecDepth 100000 in
/-- the law, from its entry -/
theorem whole_start {p : Program} {e : Env} {s : State} {m : MethodId} {below : List Frame} {meth : Method} {c : Code} (l : Launch) (hflags : l.flags = flags0) {b L : Nat} {xs : Nat → Int32} (hL : L ≤ 2560) (C0 : lw_At p s m meth c b L xs) : W p l e room_1 s m #[Value.ref b] below meth c s.heap [] 0 0 (lw_Z below #[Value.ref b] s) (entryFrame m ([Value.ref b] : List Value).toArray 7) := by
  obtain ⟨hx, hb, hr, hml, hown, hts, hX, hbl, hlocks, hgv⟩ := id C0
  have hA : ∀ q : Nat, s.heap.size ≤ q → (fun q : Nat => s.heap.size ≤ q) q := fun _ h => h
  have hbA : ¬ (fun q : Nat => s.heap.size ≤ q) b := Nat.not_le.mpr hbl
  obtain ⟨D, cI, cZ, cJ, hK⟩ := lw_K hts
  have hN : NM s := lw_NM hts (hK.1 1 _ rfl).2.1
  have hY9 : ND s := lw_ND hts
  have hNX : NX s := lw_NX hgv
  have hZ := lw_ZQ hts hgv
  have hst : l.stackTraces = false := fl_no l hflags
  have htL : ∀ w ∈ wsL_law, w.before #[Value.ref b] s = true := fun w h => hts w (wsL_law_in w h)
  have hown : s.vm.findClass RL = some m.cls := hown
  have hb : c.code = cL_law := hb
  have G : LG p l s m #[Value.ref b] c D cI cZ cJ (fun q : Nat => s.heap.size ≤ q) b L xs := ⟨hx, hb, hml, hown, htL, hK, hN, hY9, hNX, hst, hX, hbl, hbA, hA, hZ, hL⟩
  have hS : va_S (fun q : Nat => s.heap.size ≤ q) s.heap s.heap [] := va_S.rf
  have hP : va_P D vwCl [] s.heap := fun k q h => by simp at h
  have hD : va_D (fun q : Nat => s.heap.size ≤ q) [] := ⟨fun i j p q h => by simp at h, fun k q h => by simp at h⟩
  have hl := lv_entry ([.ref b]) (n := 7) (Nat.le_of_ble_eq_true rfl)
  rw [lg_entry_eq]
  generalize (lg_sl ([.ref b]) ++ List.replicate (7 - (lg_sl ([.ref b])).length) Slot.unset).toArray = ls at hl ⊢
  have hl : lv_has ls 7 [(0, .ref b)] := hl
  refine va_new (ci := 1) (fs := [.null, .null, .int 0, .int 0, .int 0, .int 0, .int 0, .int 0, .int 0, .int 0, .int 0, .int 0, .int 0, .int 0]) (C := RX1) (T := TX1) (N := 14) hx hb hts wsL_x10 tyX1 tyX1_ok hown (hts (.classLink RL 8 RX1) (wsL_r1 _ (List.mem_of_getElem? (i := 0) rfl))) (hts (.instantiable RX1 14) (wsL_r1 _ (List.mem_of_getElem? (i := 1) rfl))) (hts (.initialized RX1) (wsL_r1 _ (List.mem_of_getElem? (i := 2) rfl))) hK hP hD hS hA rfl (fun j hj => by rcases (show j = 0 ∨ j = 1 ∨ j = 2 ∨ j = 3 ∨ j = 4 ∨ j = 5 ∨ j = 6 ∨ j = 7 ∨ j = 8 ∨ j = 9 ∨ j = 10 ∨ j = 11 ∨ j = 12 ∨ j = 13 by omega) with rfl | rfl | rfl | rfl | rfl | rfl | rfl | rfl | rfl | rfl | rfl | rfl | rfl | rfl <;> rfl) (Nat.le_of_ble_eq_true rfl) (Nat.le_of_ble_eq_true rfl) dL_law_0 (fun hT H hP hD hS => ?_)
  have hP : va_P D vwCl [(hT, .inr (1, [.null, .null, .int 0, .int 0, .int 0, .int 0, .int 0, .int 0, .int 0, .int 0, .int 0, .int 0, .int 0, .int 0]))] H := hP
  have hD : va_D (fun q : Nat => s.heap.size ≤ q) [(hT, .inr (1, [.null, .null, .int 0, .int 0, .int 0, .int 0, .int 0, .int 0, .int 0, .int 0, .int 0, .int 0, .int 0, .int 0]))] := hD
  refine W.widen (k := 1) (n := 14) (by omega) (by omega) ?_
  refine lv_dup hx hb dL_law_3 rfl ?_
  have hPc := hP.sub (ws' := [(hT, .inr (1, [.null, .null, .int 0, .int 0, .int 0, .int 0, .int 0, .int 0, .int 0, .int 0, .int 0, .int 0, .int 0, .int 0]))]) [0] rfl
  have hDc := hD.sub (ws' := [(hT, .inr (1, [.null, .null, .int 0, .int 0, .int 0, .int 0, .int 0, .int 0, .int 0, .int 0, .int 0, .int 0, .int 0, .int 0]))]) [0] (by decide) rfl
  have hFc := va_free (wc := [(hT, .inr (1, [.null, .null, .int 0, .int 0, .int 0, .int 0, .int 0, .int 0, .int 0, .int 0, .int 0, .int 0, .int 0, .int 0]))]) hD hS hA [0] rfl
  refine va_callv (va_runI (As := []) (rest := [.ref hT]) ⟨hx, hb, hml, hown, htL⟩ (c_X1_init l D cI cZ cJ H.size hT) (cwI 0 htL gL_law_X1_init rfl rfl rfl (hts (.initialized RX1) (wsL_r1 _ (List.mem_of_getElem? (i := 2) rfl))) (hts (.methodLink RL 86 yX1_init) (wsL_r1 _ (List.mem_of_getElem? (i := 7) rfl))) (hts (.instanceMethod yX1_init) (wsL_r1 _ (List.mem_of_getElem? (i := 8) rfl))) rfl (by decide +kernel) ⟨Nat.le_of_ble_eq_true rfl, Nat.le_of_ble_eq_true rfl⟩) (mb_in hPc hK hN hDc [.ref hT]) rfl rfl hl.1 rfl (lv_room (Nat.le_of_ble_eq_true rfl)) dL_law_4 ⟨Nat.le_of_ble_eq_true rfl, Nat.le_of_ble_eq_true rfl⟩) hS (fun q _ h => hFc q h) hFc (fun u t H1 locs ht hvm hw hB9 hz1 hk1 hS => ?_)
  obtain ⟨hB, hG, hV⟩ := u
  obtain ⟨hP1, hD1⟩ := hB9
  rw [ht] at hP1
  obtain ⟨hP, hD⟩ := va_join (wr := []) (w1 := [cT hT hB hV aN1, cB hB hG 0, cA cI hG 1120 z32, cA cI hV 8 z32]) hP hD [0] [] rfl rfl (by decide) (by decide) hk1 hFc hP1 hD1
  generalize H1 = H at hP hS ⊢
  have hP : va_P D vwCl [cT hT hB hV aN1, cB hB hG 0, cA cI hG 1120 z32, cA cI hV 8 z32] H := hP
  have hD : va_D (fun q : Nat => s.heap.size ≤ q) [cT hT hB hV aN1, cB hB hG 0, cA cI hG 1120 z32, cA cI hV 8 z32] := hD
  refine W.widen (k := 4) (n := 1144) (by omega) (by omega) ?_
  refine lv_astore_n (lv' := [(1, .ref hT), (0, .ref b)]) hx hb dL_law_7 rfl hl (by decide) rfl (fun ls hl => ?_)
  refine va_new (ci := 2) (fs := [.int 0, .int 0, .int 0, .int 0, .int 0, .int 0, .null, .int 0, .int 0, .int 0, .null, .int 0, .int 0, .int 0, .int 0, .null]) (C := RX2) (T := TX2) (N := 16) hx hb hts wsL_x20 tyX2 tyX2_ok hown (hts (.classLink RL 87 RX2) (wsL_r1 _ (List.mem_of_getElem? (i := 3) rfl))) (hts (.instantiable RX2 16) (wsL_r1 _ (List.mem_of_getElem? (i := 4) rfl))) (hts (.initialized RX2) (wsL_r1 _ (List.mem_of_getElem? (i := 5) rfl))) hK hP hD hS hA rfl (fun j hj => by rcases (show j = 0 ∨ j = 1 ∨ j = 2 ∨ j = 3 ∨ j = 4 ∨ j = 5 ∨ j = 6 ∨ j = 7 ∨ j = 8 ∨ j = 9 ∨ j = 10 ∨ j = 11 ∨ j = 12 ∨ j = 13 ∨ j = 14 ∨ j = 15 by omega) with rfl | rfl | rfl | rfl | rfl | rfl | rfl | rfl | rfl | rfl | rfl | rfl | rfl | rfl | rfl | rfl <;> rfl) (Nat.le_of_ble_eq_true rfl) (Nat.le_of_ble_eq_true rfl) dL_law_8 (fun hM H hP hD hS => ?_)
  have hP : va_P D vwCl [cT hT hB hV aN1, cB hB hG 0, cA cI hG 1120 z32, cA cI hV 8 z32, (hM, .inr (2, [.int 0, .int 0, .int 0, .int 0, .int 0, .int 0, .null, .int 0, .int 0, .int 0, .null, .int 0, .int 0, .int 0, .int 0, .null]))] H := hP
  have hD : va_D (fun q : Nat => s.heap.size ≤ q) [cT hT hB hV aN1, cB hB hG 0, cA cI hG 1120 z32, cA cI hV 8 z32, (hM, .inr (2, [.int 0, .int 0, .int 0, .int 0, .int 0, .int 0, .null, .int 0, .int 0, .int 0, .null, .int 0, .int 0, .int 0, .int 0, .null]))] := hD
  refine W.widen (k := 5) (n := 1160) (by omega) (by omega) ?_
  refine lv_dup hx hb dL_law_11 rfl ?_
  have hPc := hP.sub (ws' := [(hM, .inr (2, [.int 0, .int 0, .int 0, .int 0, .int 0, .int 0, .null, .int 0, .int 0, .int 0, .null, .int 0, .int 0, .int 0, .int 0, .null]))]) [4] rfl
  have hDc := hD.sub (ws' := [(hM, .inr (2, [.int 0, .int 0, .int 0, .int 0, .int 0, .int 0, .null, .int 0, .int 0, .int 0, .null, .int 0, .int 0, .int 0, .int 0, .null]))]) [4] (by decide) rfl
  have hFc := va_free (wc := [(hM, .inr (2, [.int 0, .int 0, .int 0, .int 0, .int 0, .int 0, .null, .int 0, .int 0, .int 0, .null, .int 0, .int 0, .int 0, .int 0, .null]))]) hD hS hA [4] rfl
  refine va_callv (va_runI (As := []) (rest := [.ref hM]) ⟨hx, hb, hml, hown, htL⟩ (c_X2_init l D cI cZ cJ H.size hM) (cwI 0 htL gL_law_X2_init rfl rfl rfl (hts (.initialized RX2) (wsL_r1 _ (List.mem_of_getElem? (i := 5) rfl))) (hts (.methodLink RL 89 yX2_init) (wsL_r2 _ (List.mem_of_getElem? (i := 4) rfl))) (hts (.instanceMethod yX2_init) (wsL_r2 _ (List.mem_of_getElem? (i := 5) rfl))) rfl (by decide +kernel) ⟨Nat.le_of_ble_eq_true rfl, Nat.le_of_ble_eq_true rfl⟩) (mb_in hPc hK hN hDc [.ref hM]) rfl rfl hl.1 rfl (lv_room (Nat.le_of_ble_eq_true rfl)) dL_law_12 ⟨Nat.le_of_ble_eq_true rfl, Nat.le_of_ble_eq_true rfl⟩) hS (fun q _ h => hFc q h) hFc (fun u t H1 locs ht hvm hw hB9 hz1 hk1 hS => ?_)
  obtain ⟨hO, hW, hY⟩ := u
  obtain ⟨hP1, hD1⟩ := hB9
  rw [ht] at hP1
  obtain ⟨hP, hD⟩ := va_join (wr := [cT hT hB hV aN1, cB hB hG 0, cA cI hG 1120 z32, cA cI hV 8 z32]) (w1 := [cM hM hO hW hY 0 aN2, cA cZ hO 16384 z32, cA cI hW 8 z32, cA cI hY 8 z32]) hP hD [4] [0, 1, 2, 3] rfl rfl (by decide) (by decide) hk1 hFc hP1 hD1
  generalize H1 = H at hP hS ⊢
  have hP : va_P D vwCl [cT hT hB hV aN1, cB hB hG 0, cA cI hG 1120 z32, cA cI hV 8 z32, cM hM hO hW hY 0 aN2, cA cZ hO 16384 z32, cA cI hW 8 z32, cA cI hY 8 z32] H := hP
  have hD : va_D (fun q : Nat => s.heap.size ≤ q) [cT hT hB hV aN1, cB hB hG 0, cA cI hG 1120 z32, cA cI hV 8 z32, cM hM hO hW hY 0 aN2, cA cZ hO 16384 z32, cA cI hW 8 z32, cA cI hY 8 z32] := hD
  refine W.widen (k := 8) (n := 17560) (by omega) (by omega) ?_
  refine lv_astore_n (lv' := [(2, .ref hM), (1, .ref hT), (0, .ref b)]) hx hb dL_law_15 rfl hl (by decide) rfl (fun ls hl => ?_)
  refine lv_iconst (v := 1) hx hb dL_law_16 (by decide) ?_
  refine q_newa (atype := .long) (ty := .long) (a0 := (1, .inr (.inl (fun _ => 0)))) (N' := 1) hx hb (hts (.arrayClass .long) (wsL_r1 _ (List.mem_of_getElem? (i := 6) rfl))) rfl hK 2 rfl un_J hP hD hS hA (z64_J 1) (by decide) (by decide) (by decide) (Nat.le_of_ble_eq_true rfl) (Nat.le_of_ble_eq_true rfl) dL_law_17 (fun hX H hP hD hS => ?_)
  have hP : va_P D vwCl [cT hT hB hV aN1, cB hB hG 0, cA cI hG 1120 z32, cA cI hV 8 z32, cM hM hO hW hY 0 aN2, cA cZ hO 16384 z32, cA cI hW 8 z32, cA cI hY 8 z32, cL cJ hX 1 (fun _ => 0)] H := hP
  have hD : va_D (fun q : Nat => s.heap.size ≤ q) [cT hT hB hV aN1, cB hB hG 0, cA cI hG 1120 z32, cA cI hV 8 z32, cM hM hO hW hY 0 aN2, cA cZ hO 16384 z32, cA cI hW 8 z32, cA cI hY 8 z32, cL cJ hX 1 (fun _ => 0)] := hD
  refine W.widen (k := 9) (n := 17561) (by omega) (by omega) ?_
  refine lv_astore_n (lv' := [(3, .ref hX), (2, .ref hM), (1, .ref hT), (0, .ref b)]) hx hb dL_law_19 rfl hl (by decide) rfl (fun ls hl => ?_)
  refine lv_iconst (v := 0) hx hb dL_law_20 (by decide) ?_
  refine lv_istore (lv' := [(4, .int 0), (3, .ref hX), (2, .ref hM), (1, .ref hT), (0, .ref b)]) hx hb dL_law_21 hl (by decide) rfl (fun ls hl => ?_)
  have hP : va_P D vwCl (LX cI cZ cJ hT hB hV hG hX hM hO hW hY aN1 0 z32 z32 (fun _ => 0) 0 aN2 (fun _ => false) z32 z32) H := hP.sub [0, 1, 2, 3, 8, 4, 5, 6, 7] rfl
  have hD : va_D (fun q : Nat => s.heap.size ≤ q) (LX cI cZ cJ hT hB hV hG hX hM hO hW hY aN1 0 z32 z32 (fun _ => 0) 0 aN2 (fun _ => false) z32 z32) := hD.sub [0, 1, 2, 3, 8, 4, 5, 6, 7] (by decide) rfl
  have hl : lv_has ls 7 [(0, .ref b), (1, .ref hT), (2, .ref hM), (3, .ref hX), (4, .int (nI 0))] := lv_sub hl [4, 3, 2, 1, 0] rfl
  have hI : Inv aN1 aN2 z32 0 z32 (fun _ => false) := ⟨fun _ _ => rfl, Or.inl ⟨rfl, rfl, fun k hk => by
    show (0 : Int32) = aN1 k
    unfold aN1
    simp only [upd]
    rw [if_neg (by omega), if_neg (by omega), if_neg (by omega), if_neg (by omega)]⟩⟩
  exact law_loop G hr hlocks (L + 1) 0 0 rfl (Nat.zero_le L) (by omega) aN1 0 z32 z32 (fun _ => 0) 0 aN2 (fun _ => false) z32 H _ ls hI hP hD hS hl
