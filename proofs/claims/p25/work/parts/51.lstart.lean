/-! the law, from its entry -/
def LawAt (b L : Nat) (xs : Nat → Int32) (sz : Nat) (U : State) : Prop := va_X b L xs U U.heap ∧ b < U.heap.size ∧ U.heap.size = sz ∧ (Jvm.Cond.and given_1 narrow_1).before #[Value.ref b] U = true
set_option maxHeartbeats 4000000 in
set_option maxRecDepth 100000 in
theorem c_law (l : Launch) (hst : l.stackTraces = false) {b0 L : Nat} {xs : Nat → Int32} (hL9 : L ≤ 260) (h68 : 68 ≤ L) (hxs : ∀ t, t < 34 → xs (2 * t) = 38 ∧ xs (2 * t + 1) = 0) (sz : Nat) :
    Met l x (Jvm.Cond.code x code maxLocals ret :: tables_1) rfR (va_Pc [.ref b0] (LawAt b0 L xs sz)) (va_Qi rfPP (fun u t => sz + u ≤ t.heap.size) (fun q => sz ≤ q)) 700 6000 (fun q => sz ≤ q) := by
  refine Met.ofW (cc := code) (maxL := maxLocals) (ret := ret) (by decide) rfl ?_
  intro p e s m args below meth c s₁ B hml hv
  obtain ⟨rfl, hX9, hbl, hsz, hgv⟩ := hv
  subst hsz
  have hts0 : ∀ w ∈ (Jvm.Cond.code x code maxLocals ret :: tables_1), w.before #[Value.ref b0] s = true := atoms_spec (ws := Jvm.Cond.code x code maxLocals ret :: tables_1) B.pre
  have hts : ∀ w ∈ lw_tbl, w.before #[Value.ref b0] s = true := k2_hts_sels lw_privs (fun w hw => hts0 w (List.mem_cons_of_mem _ hw)) lw_privs_ok
  have hml : c.maxLocals = 11 := hml
  have hx := B.exec
  have hb : c.code = cL_law := B.bytes
  have hr : meth.sig.returnType = some .boolean := B.returns
  have hlocks := B.notSynchronized
  have hA : ∀ q : Nat, s.heap.size ≤ q → (fun q : Nat => s.heap.size ≤ q) q := fun _ h => h
  have hbA : ¬ (fun q : Nat => s.heap.size ≤ q) b0 := Nat.not_le.mpr hbl
  obtain ⟨D, cI, hK⟩ := lw_K hts
  have hN : NM s := lw_NM hts (hK.1 1 _ rfl).2.1
  have hY : ND s := lw_ND hts
  have hXn : NX s := lw_NX hgv
  have hZ := lw_ZQ hts hgv
  have htL : ∀ w ∈ wsL_law, w.before #[Value.ref b0] s = true := fun w h => hts w (wsL_law_in w h)
  have hown : s.vm.findClass RL = some m.cls := findClass_of_methodNamed B.named
  have G : LG p l s m #[Value.ref b0] meth c D cI (fun q : Nat => s.heap.size ≤ q) b0 L xs := ⟨hx, hb, hr, hlocks, hml, hown, htL, hK, hN, hY, hXn, hst, hX9, hbl, hbA, hA, hZ, hL9, h68, hxs⟩
  have hS : va_S (fun q : Nat => s.heap.size ≤ q) s.heap s.heap [] := va_S.rf
  have hP : va_P D vwCl [] s.heap := fun k q h => by simp at h
  have hD : va_D (fun q : Nat => s.heap.size ≤ q) [] := ⟨fun i j p q h => by simp at h, fun k q h => by simp at h⟩
  show W p l e rfR s m #[Value.ref b0] below meth c s.heap [] 0 0 (MQ below (rfQc s (fun q : Nat => s.heap.size ≤ q)) #[Value.ref b0] s 700 6000 (fun q : Nat => s.heap.size ≤ q)) (entryFrame m ([Value.ref b0] : List Value).toArray 11)
  have hl := lv_entry ([.ref b0]) (n := 11) (Nat.le_of_ble_eq_true rfl)
  rw [lg_entry_eq]
  generalize (lg_sl ([.ref b0]) ++ List.replicate (11 - (lg_sl ([.ref b0])).length) Slot.unset).toArray = ls at hl ⊢
  have hl : lv_has ls 11 [(0, .ref b0)] := hl
  refine va_new (ci := 1) (fs := [.null, .null, .int 0, .int 0, .int 0, .int 0, .int 0, .int 0, .int 0, .int 0, .int 0, .int 0, .int 0, .int 0]) (C := RX1) (T := TX1) (N := 14) hx hb hts wsL_x10 tyX1 tyX1_ok hown (hts (.classLink RL 9 RX1) (wsL_r1 _ (List.mem_of_getElem? (i := 0) rfl))) (hts (.instantiable RX1 14) (wsL_r1 _ (List.mem_of_getElem? (i := 1) rfl))) (hts (.initialized RX1) (wsL_r1 _ (List.mem_of_getElem? (i := 2) rfl))) hK hP hD hS hA rfl (fun j hj => by rcases (show j = 0 ∨ j = 1 ∨ j = 2 ∨ j = 3 ∨ j = 4 ∨ j = 5 ∨ j = 6 ∨ j = 7 ∨ j = 8 ∨ j = 9 ∨ j = 10 ∨ j = 11 ∨ j = 12 ∨ j = 13 by omega) with rfl | rfl | rfl | rfl | rfl | rfl | rfl | rfl | rfl | rfl | rfl | rfl | rfl | rfl <;> rfl) (Nat.le_of_ble_eq_true rfl) (Nat.le_of_ble_eq_true rfl) dL_law_0 (fun hT H hP hD hS => ?_)
  have hP : va_P D vwCl [(hT, .inr (1, [.null, .null, .int 0, .int 0, .int 0, .int 0, .int 0, .int 0, .int 0, .int 0, .int 0, .int 0, .int 0, .int 0]))] H := hP
  have hD : va_D (fun q : Nat => s.heap.size ≤ q) [(hT, .inr (1, [.null, .null, .int 0, .int 0, .int 0, .int 0, .int 0, .int 0, .int 0, .int 0, .int 0, .int 0, .int 0, .int 0]))] := hD
  refine W.widen (k := 1) (n := 14) (by omega) (by omega) ?_
  refine lv_dup hx hb dL_law_3 rfl ?_
  have hPc := hP.sub (ws' := [(hT, .inr (1, [.null, .null, .int 0, .int 0, .int 0, .int 0, .int 0, .int 0, .int 0, .int 0, .int 0, .int 0, .int 0, .int 0]))]) [0] rfl
  have hDc := hD.sub (ws' := [(hT, .inr (1, [.null, .null, .int 0, .int 0, .int 0, .int 0, .int 0, .int 0, .int 0, .int 0, .int 0, .int 0, .int 0, .int 0]))]) [0] (by decide) rfl
  have hFc := va_free (wc := [(hT, .inr (1, [.null, .null, .int 0, .int 0, .int 0, .int 0, .int 0, .int 0, .int 0, .int 0, .int 0, .int 0, .int 0, .int 0]))]) hD hS hA [0] rfl
  refine va_callv (va_runI (As := []) (rest := [.ref hT]) ⟨hx, hb, hml, hown, htL⟩ (c_X1_init l D cI cI cI H.size hT) (cwI 0 htL gL_law_X1_init rfl rfl rfl (hts (.initialized RX1) (wsL_r1 _ (List.mem_of_getElem? (i := 2) rfl))) (hts (.methodLink RL 150 yX1_init) (wsL_r1 _ (List.mem_of_getElem? (i := 4) rfl))) (hts (.instanceMethod yX1_init) (wsL_r1 _ (List.mem_of_getElem? (i := 5) rfl))) rfl (by decide +kernel) ⟨Nat.le_of_ble_eq_true rfl, Nat.le_of_ble_eq_true rfl⟩) (mb_in hPc hK hN hDc [.ref hT]) rfl rfl hl.1 rfl (lv_room (Nat.le_of_ble_eq_true rfl)) dL_law_4 ⟨Nat.le_of_ble_eq_true rfl, Nat.le_of_ble_eq_true rfl⟩) hS (fun q _ h => hFc q h) hFc (fun u t H1 locs ht hvm hw hB9 hz1 hk1 hS => ?_)
  obtain ⟨hB, hG, hV⟩ := u
  obtain ⟨hP1, hD1⟩ := hB9
  rw [ht] at hP1
  obtain ⟨hP, hD⟩ := va_join (wr := []) (w1 := [cT hT hB hV aN1, cB hB hG 0, cA cI hG 1120 z32, cA cI hV 8 z32]) hP hD [0] [] rfl rfl (by decide) (by decide) hk1 hFc hP1 hD1
  generalize H1 = H at hP hS ⊢
  have hP : va_P D vwCl [cT hT hB hV aN1, cB hB hG 0, cA cI hG 1120 z32, cA cI hV 8 z32] H := hP
  have hD : va_D (fun q : Nat => s.heap.size ≤ q) [cT hT hB hV aN1, cB hB hG 0, cA cI hG 1120 z32, cA cI hV 8 z32] := hD
  refine W.widen (k := 4) (n := 1144) (by omega) (by omega) ?_
  refine lv_astore_n (lv' := [(1, .ref hT), (0, .ref b0)]) hx hb dL_law_7 rfl hl (by decide) rfl (fun ls hl => ?_)
  refine lv_bipush (v := 13) hx hb dL_law_8 (by decide) ?_
  refine q_newa (atype := .int) (ty := .int) (a0 := (13, .inl z32)) (N' := 13) hx hb (hts (.arrayClass .int) (wsL_r1 _ (List.mem_of_getElem? (i := 3) rfl))) rfl hK 0 rfl un_I hP hD hS hA (z32_I 13) (by decide) (by decide) (by decide) (Nat.le_of_ble_eq_true rfl) (Nat.le_of_ble_eq_true rfl) dL_law_10 (fun kg H hP hD hS => ?_)
  have hP : va_P D vwCl [cT hT hB hV aN1, cB hB hG 0, cA cI hG 1120 z32, cA cI hV 8 z32, cA cI kg 13 z32] H := hP
  have hD : va_D (fun q : Nat => s.heap.size ≤ q) [cT hT hB hV aN1, cB hB hG 0, cA cI hG 1120 z32, cA cI hV 8 z32, cA cI kg 13 z32] := hD
  refine W.widen (k := 5) (n := 1157) (by omega) (by omega) ?_
  refine lv_astore_n (lv' := [(2, .ref kg), (1, .ref hT), (0, .ref b0)]) hx hb dL_law_12 rfl hl (by decide) rfl (fun ls hl => ?_)
  refine lv_bipush (v := 8) hx hb dL_law_13 (by decide) ?_
  refine q_newa (atype := .int) (ty := .int) (a0 := (8, .inl z32)) (N' := 8) hx hb (hts (.arrayClass .int) (wsL_r1 _ (List.mem_of_getElem? (i := 3) rfl))) rfl hK 0 rfl un_I hP hD hS hA (z32_I 8) (by decide) (by decide) (by decide) (Nat.le_of_ble_eq_true rfl) (Nat.le_of_ble_eq_true rfl) dL_law_15 (fun kv H hP hD hS => ?_)
  have hP : va_P D vwCl [cT hT hB hV aN1, cB hB hG 0, cA cI hG 1120 z32, cA cI hV 8 z32, cA cI kg 13 z32, cA cI kv 8 z32] H := hP
  have hD : va_D (fun q : Nat => s.heap.size ≤ q) [cT hT hB hV aN1, cB hB hG 0, cA cI hG 1120 z32, cA cI hV 8 z32, cA cI kg 13 z32, cA cI kv 8 z32] := hD
  refine W.widen (k := 6) (n := 1165) (by omega) (by omega) ?_
  refine lv_astore_n (lv' := [(3, .ref kv), (2, .ref kg), (1, .ref hT), (0, .ref b0)]) hx hb dL_law_17 rfl hl (by decide) rfl (fun ls hl => ?_)
  refine lv_bipush (v := 60) hx hb dL_law_18 (by decide) ?_
  refine q_newa (atype := .int) (ty := .int) (a0 := (60, .inl z32)) (N' := 60) hx hb (hts (.arrayClass .int) (wsL_r1 _ (List.mem_of_getElem? (i := 3) rfl))) rfl hK 0 rfl un_I hP hD hS hA (z32_I 60) (by decide) (by decide) (by decide) (Nat.le_of_ble_eq_true rfl) (Nat.le_of_ble_eq_true rfl) dL_law_20 (fun kf H hP hD hS => ?_)
  have hP : va_P D vwCl [cT hT hB hV aN1, cB hB hG 0, cA cI hG 1120 z32, cA cI hV 8 z32, cA cI kg 13 z32, cA cI kv 8 z32, cA cI kf 60 z32] H := hP
  have hD : va_D (fun q : Nat => s.heap.size ≤ q) [cT hT hB hV aN1, cB hB hG 0, cA cI hG 1120 z32, cA cI hV 8 z32, cA cI kg 13 z32, cA cI kv 8 z32, cA cI kf 60 z32] := hD
  refine W.widen (k := 7) (n := 1225) (by omega) (by omega) ?_
  refine lv_astore (lv' := [(4, .ref kf), (3, .ref kv), (2, .ref kg), (1, .ref hT), (0, .ref b0)]) hx hb dL_law_22 hl (by decide) rfl (fun ls hl => ?_)
  refine lv_bipush (v := 40) hx hb dL_law_24 (by decide) ?_
  refine q_newa (atype := .int) (ty := .int) (a0 := (40, .inl z32)) (N' := 40) hx hb (hts (.arrayClass .int) (wsL_r1 _ (List.mem_of_getElem? (i := 3) rfl))) rfl hK 0 rfl un_I hP hD hS hA (z32_I 40) (by decide) (by decide) (by decide) (Nat.le_of_ble_eq_true rfl) (Nat.le_of_ble_eq_true rfl) dL_law_26 (fun kb H hP hD hS => ?_)
  have hP : va_P D vwCl [cT hT hB hV aN1, cB hB hG 0, cA cI hG 1120 z32, cA cI hV 8 z32, cA cI kg 13 z32, cA cI kv 8 z32, cA cI kf 60 z32, cA cI kb 40 z32] H := hP
  have hD : va_D (fun q : Nat => s.heap.size ≤ q) [cT hT hB hV aN1, cB hB hG 0, cA cI hG 1120 z32, cA cI hV 8 z32, cA cI kg 13 z32, cA cI kv 8 z32, cA cI kf 60 z32, cA cI kb 40 z32] := hD
  refine W.widen (k := 8) (n := 1265) (by omega) (by omega) ?_
  refine lv_astore (lv' := [(5, .ref kb), (4, .ref kf), (3, .ref kv), (2, .ref kg), (1, .ref hT), (0, .ref b0)]) hx hb dL_law_28 hl (by decide) rfl (fun ls hl => ?_)
  have hg9 : s.heap.size ≤ H.size := hS.1
  refine lv_aload_n hx hb dL_law_30 rfl (lv_at hl 4 rfl) ?_
  refine lv_iconst (v := 0) hx hb dL_law_31 (by decide) ?_
  refine lv_aload_n hx hb dL_law_32 rfl (lv_at hl 3 rfl) ?_
  refine lv_aload_n hx hb dL_law_33 rfl (lv_at hl 2 rfl) ?_
  refine lv_aload hx hb dL_law_34 (lv_at hl 1 rfl) ?_
  refine lv_aload hx hb dL_law_36 (lv_at hl 0 rfl) ?_
  refine mg_S (As := [.ref hT, .int 0, .ref kg, .ref kv, .ref kf, .ref kb]) (rest := []) ⟨hx, hb, hml, hown, htL⟩ (c_L_told0 l D cI cI cI _ hst hT hB hV aN1 hG 0 z32 z32 kg kv kf kb z32 z32 z32 z32 0 rfl rfl) (va_cwS 6 htL gL_law_L_isTold rfl rfl rfl (by decide +kernel) ⟨Nat.le_of_ble_eq_true rfl, Nat.le_of_ble_eq_true rfl⟩) hP hD hK hN hY hXn hS hA hZ rfl hl.1 rfl (Nat.le_of_ble_eq_true rfl) dL_law_38 ⟨Nat.le_of_ble_eq_true rfl, Nat.le_of_ble_eq_true rfl⟩ [0, 1, 2, 3, 4, 5, 6, 7] [] rfl rfl (fun _ => [cT hT hB hV aN1, cB hB hG 0, cA cI hG 1120 z32, cA cI hV 8 z32, cA cI kg 13 z32, cA cI kv 8 z32, cA cI kf 60 z32, cA cI kb 40 z32]) (fun _ => rfl) (fun _ i9 h9 => nomatch h9) (fun _ => rfl) 8 (fun _ => rfl) (by decide) (by decide) (fun r1 u1 H locs hr1 hP hD hS hG1 => ?_)
  have hP : va_P D vwCl [cT hT hB hV aN1, cB hB hG 0, cA cI hG 1120 z32, cA cI hV 8 z32, cA cI kg 13 z32, cA cI kv 8 z32, cA cI kf 60 z32, cA cI kb 40 z32] H := hP
  have hD : va_D (fun q : Nat => s.heap.size ≤ q) [cT hT hB hV aN1, cB hB hG 0, cA cI hG 1120 z32, cA cI hV 8 z32, cA cI kg 13 z32, cA cI kv 8 z32, cA cI kf 60 z32, cA cI kb 40 z32] := hD
  try dsimp only at hG1
  rw [hr1]
  refine lv_if_ne (tgt := 46) hx hb dL_law_41 (by decide) (fun _ => ?_) (fun c9 => absurd c9 (by decide))
  refine lv_iconst (v := 0) hx hb dL_law_46 (by decide) ?_
  refine lv_istore (lv' := [(6, .int 0), (5, .ref kb), (4, .ref kf), (3, .ref kv), (2, .ref kg), (1, .ref hT), (0, .ref b0)]) hx hb dL_law_47 hl (by decide) rfl (fun ls hl => ?_)
  refine W.widen (k := 17) (n := 1319) (by omega) (by omega) ?_
  exact law_loop G 34 0 (by omega) aN1 0 z32 z32 z32 z32 z32 H locs ls (fun _ _ => rfl) (by omega) hP hD hS (lv_sub hl [6, 5, 4, 3, 2, 1, 0] rfl)
