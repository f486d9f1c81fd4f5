/-! the law: what its arms share -/
section LawRows
variable {p : Program} {l : Launch} {e : Env} {R : Room} {s : State} {m : MethodId} {args : Array Value} {below : List Frame} {meth : Method} {c : Code} {cc bytes : ByteArray} {H : Heap} {locs : List Loc} {cells slots : Nat} {pc : Nat} {ls : Array Slot} {v : Int32} {D : va_G} {cI cZ cJ : ClassId} {ws W1 W2 Wc : va_W} {A : Nat → Prop} {own : String} {index maxL nL fr lo n : Nat} {y : MethodName} {ret : Option FieldType} {hh : List (Nat × Nat × Nat × Nat)} {wy Ts : List Cond} {As rest st0 : List Value} {Q : State → Prop}
theorem mi_SW (S : CallFix p m c cc nL s args Ts own) (hM : Mi l D cI cZ cJ y wy fr lo H.size As Wc W1 v) (cw : vx_CSW R s args own index y bytes maxL ret hh wy (rmR fr lo) 0 0 n)
    (hP : va_P D vwCl ws H) (hD : va_D A ws) (hK : va_K D vwCl (tys9 cI cZ cJ) s) (hN : NM s) (hS : va_S A s.heap H locs) (hA : ∀ q : Nat, s.heap.size ≤ q → A q) (hn : As.length = n) (hsize : ls.size = nL) (hst : st0 = As.reverse ++ rest) (hW : (rest.map fun v => v.category).sum ≤ 8) (hdg : decode cc pc = .ok (.invokestatic index, 3)) (hf : cells ≤ R.cells ∧ slots ≤ R.slots)
    (isC isR : List Nat) (hnd : va_nd isC = true) (hC : isC.map (fun i => ws[i]?) = Wc.map some) (h1 : isC.map (fun i => W2[i]?) = W1.map some) (hR : ∀ i ∈ isR, W2[i]? = ws[i]?) (hfst : W2.map (fun q => q.1) = ws.map (fun q => q.1)) (k : Nat) (hlen : W2.length = k) (hall : ∀ i, i < k → i ∈ isC ∨ i ∈ isR) (hdis : ∀ i ∈ isR, i ∉ isC)
    (kk : ∀ (H : Heap) (locs : List Loc), va_P D vwCl W2 H → va_D A W2 → va_S A s.heap H locs → W p l e R s m args below meth c H locs cells slots Q (F0 m (pc + 3) ls (.int v :: rest))) : W p l e R s m args below meth c H locs cells slots Q (F0 m pc ls st0) := by
  have hPc : va_P D vwCl Wc H := wd_cut hP isC hC
  have hDc : va_D A Wc := hD.sub isC hnd hC
  exact mi_call (vx_runSW (As := As) (rest := rest) S hM cw (mb_in hPc hK hN hDc As) rfl hn hsize hst (lv_room hW) hdg hf) hP hD hS hA isC isR hC h1 hR hfst k hlen hall hdis kk
theorem mx_SW (S : CallFix p m c cc nL s args Ts own) (hM : Mx l D cI cZ cJ y wy fr lo H.size As Wc v) (cw : vx_CSW R s args own index y bytes maxL ret hh wy (rmX fr lo) 1 6 n)
    (hP : va_P D vwCl ws H) (hD : va_D A ws) (hK : va_K D vwCl (tys9 cI cZ cJ) s) (hN : NM s) (hY : ND s) (hX : NX s) (hS : va_S A s.heap H locs) (hA : ∀ q : Nat, s.heap.size ≤ q → A q) (hZ : ZQ A s s.heap) (hn : As.length = n) (hsize : ls.size = nL) (hst : st0 = As.reverse ++ rest) (hW : (rest.map fun v => v.category).sum ≤ 8) (hdg : decode cc pc = .ok (.invokestatic index, 3)) (hf : cells + 1 ≤ R.cells ∧ slots + 6 ≤ R.slots)
    (isC isR : List Nat) (hnd : va_nd isC = true) (hC : isC.map (fun i => ws[i]?) = Wc.map some) (k : Nat) (hlen : ws.length = k) (hall : ∀ i, i < k → i ∈ isC ∨ i ∈ isR) (hdis : ∀ i ∈ isR, i ∉ isC)
    (kk : ∀ (H : Heap) (locs : List Loc), va_P D vwCl ws H → va_D A ws → va_S A s.heap H locs → W p l e R s m args below meth c H locs (cells + 1) (slots + 6) Q (F0 m (pc + 3) ls (.int v :: rest))) : W p l e R s m args below meth c H locs cells slots Q (F0 m pc ls st0) := by
  have hPc : va_P D vwCl Wc H := wd_cut hP isC hC
  have hDc : va_D A Wc := hD.sub isC hnd hC
  have hFc := va_free hD hS hA isC hC
  have hb9 := xb_in hPc hK hN hDc (hZ.S hS) hFc As
  refine va_calli (vx_runSW (As := As) (rest := rest) S hM cw ⟨XL.blind, fun U hU hW9 => ⟨(hb9.2 U hU hW9).1, ⟨(hb9.2 U hU hW9).2, ND.warm hW9 hY⟩, NX.moved hW9.alike hX⟩⟩ rfl hn hsize hst (lv_room hW) hdg hf) hS (fun q _ h => hFc q h) hFc (fun r u t H1 locs1 ht hvm hw hB hz1 hk1 hS1 => ?_)
  subst hw
  have hB2 : va_P D vwCl Wc t.heap := hB
  rw [ht] at hB2
  obtain ⟨hP2, hD2⟩ := wd_back hP hD isC isR hC hC (fun _ _ => rfl) rfl (by rw [hlen]; exact hall) hdis hk1 hB2
  exact kk H1 locs1 hP2 hD2 hS1
/-- one int of the script -/
theorem law_ld {b L i k : Nat} {xs : Nat → Int32} {k9 : Int} (hx : p.tables.exec = Jvm.exec) (hb : c.code = cc) (hX : va_X b L xs s s.heap) (hbl : b < s.heap.size) (hbA : ¬ A b) (hS : va_S A s.heap H locs) (h0 : ls[0]? = some (.val (.ref b))) (h4 : ls[4]? = some (.val (.int (nI i)))) (hk : Int32.ofInt k9 = nI k) (hi : i + k < L) (hL : L ≤ 2560)
    (d0 : decode cc pc = .ok (.aload_n 0, 1)) (d1 : decode cc (pc + 1) = .ok (.iload 4, 2)) (d3 : decode cc (pc + 3) = .ok (.iconst k9, 1)) (d4 : decode cc (pc + 4) = .ok (.iadd, 1)) (d5 : decode cc (pc + 5) = .ok (.iaload, 1))
    (kk : W p l e R s m args below meth c H locs cells slots Q (F0 m (pc + 6) ls (.int (xs (i + k)) :: rest))) : W p l e R s m args below meth c H locs cells slots Q (F0 m pc ls rest) := by
  refine lv_aload_n hx hb d0 rfl h0 ?_
  refine lv_iload hx hb d1 h4 ?_
  refine lv_iconst (v := nI k) hx hb d3 hk ?_
  refine lv_iadd hx hb d4 ?_
  rw [nI_add]
  refine va_sld hx hb hX hbl hbA hS (vp_in_nI hi (by omega)) d5 ?_
  rw [nI_clamp (by omega)]
  exact kk
end LawRows
abbrev LX (cI cZ cJ : ClassId) (hT hB hV hG hX hM hO hW hY : Nat) (a : Nat → Int32) (tr : Int32) (g v : Nat → Int32) (ot : Nat → Int64) (th : Int32) (a' : Nat → Int32) (o : Nat → Bool) (v2 mn : Nat → Int32) : va_W := [cT hT hB hV a, cB hB hG tr, cA cI hG 1120 g, cA cI hV 8 v, cL cJ hX 1 ot, cM hM hO hW hY th a', cA cZ hO 16384 (fun w => bI (o w)), cA cI hW 8 v2, cA cI hY 8 mn]
/-- both sides' states agree -/
def Inv (a a' g : Nat → Int32) (tr : Int32) (v : Nat → Int32) (o : Nat → Bool) : Prop := (∀ j, 1120 ≤ j → g j = 0) ∧ ((a 0 = 0 ∧ a' 0 = 0 ∧ aEq a a') ∨ (a' = a ∧ gIn a g tr v o))
/-- what holds on the law's way, beside the world -/
def LG (p : Program) (l : Launch) (s : State) (m : MethodId) (args : Array Value) (c : Code) (D : va_G) (cI cZ cJ : ClassId) (A : Nat → Prop) (b L : Nat) (xs : Nat → Int32) : Prop := p.tables.exec = Jvm.exec ∧ c.code = cL_law ∧ c.maxLocals = 7 ∧ s.vm.findClass RL = some m.cls ∧ (∀ w ∈ wsL_law, w.before args s = true) ∧ va_K D vwCl (tys9 cI cZ cJ) s ∧ NM s ∧ ND s ∧ NX s ∧ l.stackTraces = false ∧ va_X b L xs s s.heap ∧ b < s.heap.size ∧ ¬ A b ∧ (∀ q : Nat, s.heap.size ≤ q → A q) ∧ ZQ A s s.heap ∧ L ≤ 2560
/-- the way on from where all arms meet -/
def JN (p : Program) (l : Launch) (e : Env) (s : State) (m : MethodId) (args : Array Value) (below : List Frame) (meth : Method) (c : Code) (cells slots : Nat) (Q : State → Prop) (D : va_G) (cI cZ cJ : ClassId) (A : Nat → Prop) (b hT hB hV hG hX hM hO hW hY i : Nat) : Prop :=
  ∀ (a : Nat → Int32) (tr : Int32) (g v : Nat → Int32) (ot : Nat → Int64) (th : Int32) (a' : Nat → Int32) (o : Nat → Bool) (mn : Nat → Int32) (H : Heap) (locs : List Loc) (ls : Array Slot), Inv a a' g tr v o → va_P D vwCl (LX cI cZ cJ hT hB hV hG hX hM hO hW hY a tr g v ot th a' o v mn) H → va_D A (LX cI cZ cJ hT hB hV hG hX hM hO hW hY a tr g v ot th a' o v mn) → va_S A s.heap H locs → lv_has ls 7 [(0, .ref b), (1, .ref hT), (2, .ref hM), (3, .ref hX), (4, .int (nI i))] → W p l e room_1 s m args below meth c H locs (cells + 1) (slots + 6) Q (F0 m 1408 ls [])
section LawTail
variable {p : Program} {l : Launch} {e : Env} {s : State} {m : MethodId} {args : Array Value} {below : List Frame} {meth : Method} {c : Code} {cells slots c9 s9 : Nat} {Q : State → Prop} {D : va_G} {cI cZ cJ : ClassId} {A : Nat → Prop} {b L hT hB hV hG hX hM hO hW hY i t : Nat} {xs : Nat → Int32} {a g v a' mn : Nat → Int32} {tr th k bv : Int32} {ot : Nat → Int64} {o : Nat → Bool} {H : Heap} {locs : List Loc} {ls : Array Slot}
/-- the end of an arm: what was thrown, and the answers, are compared -/
theorem law_tail (G : LG p l s m args c D cI cZ cJ A b L xs) (hcs : cells + 1 ≤ 1046 ∧ slots + 6 ≤ 25831) (hc9 : c9 ≤ cells + 1 ∧ s9 ≤ slots + 6) (J : JN p l e s m args below meth c cells slots Q D cI cZ cJ A b hT hB hV hG hX hM hO hW hY i)
    (d0 : decode cL_law t = .ok (.istore 6, 2)) (d2 : decode cL_law (t + 2) = .ok (.aload_n 2, 1)) (d3 : decode cL_law (t + 3) = .ok (.invokevirtual 96, 3)) (d6 : decode cL_law (t + 6) = .ok (.iload 5, 2)) (d8 : decode cL_law (t + 8) = .ok (.if_icmp .eq 5, 3)) (d13 : decode cL_law (t + 13) = .ok (.iload 5, 2)) (d15 : decode cL_law (t + 15) = .ok (.ifCond .ne 15, 3)) (d18 : decode cL_law (t + 18) = .ok (.aload_n 3, 1)) (d19 : decode cL_law (t + 19) = .ok (.iconst 0, 1)) (d20 : decode cL_law (t + 20) = .ok (.laload, 1)) (d21 : decode cL_law (t + 21) = .ok (.iload 6, 2)) (d23 : decode cL_law (t + 23) = .ok (.i2l, 1)) (d24 : decode cL_law (t + 24) = .ok (.lcmp, 1)) (d25 : decode cL_law (t + 25) = .ok (.ifCond .eq 5, 3)) {off : Int} (d30 : decode cL_law (t + 30) = .ok (.goto off, 3)) (hoff : ((t + 30 : Nat) : Int) + off = 1408)
    (hI : Inv a a' g tr v o) (hP : va_P D vwCl (LX cI cZ cJ hT hB hV hG hX hM hO hW hY a tr g v ot th a' o v mn) H) (hD : va_D A (LX cI cZ cJ hT hB hV hG hX hM hO hW hY a tr g v ot th a' o v mn)) (hS : va_S A s.heap H locs) (hl : lv_has ls 7 [(5, .int k), (0, .ref b), (1, .ref hT), (2, .ref hM), (3, .ref hX), (4, .int (nI i))]) (hth : th = k) (hans : k = 0 → ot 0 = bv.toInt64) : W p l e room_1 s m args below meth c H locs c9 s9 Q (F0 m t ls [.int bv]) := by
  obtain ⟨hx, hb, hml, hown, htL, hK, hN, hY9, hNX, hst, hX9, hbl, hbA, hA, hZ, hL9⟩ := G
  refine lv_istore (lv' := [(6, .int bv), (5, .int k), (0, .ref b), (1, .ref hT), (2, .ref hM), (3, .ref hX), (4, .int (nI i))]) hx hb d0 hl (by decide) rfl (fun ls hl => ?_)
  refine lv_aload_n hx hb d2 rfl (lv_at hl 4 rfl) ?_
  refine rd_V (b := hM) (As := []) (rest := []) ⟨hx, hb, hml, hown, htL⟩ (c_X2_thrown l D cI cZ cJ hM hO hW hY th a') (cwV 0 htL gL_law_X2_thrown rfl rfl rfl (by decide +kernel) ⟨Nat.le_of_ble_eq_true rfl, Nat.le_of_ble_eq_true rfl⟩) (hP.sub (ws' := [cM hM hO hW hY th a']) [5] rfl) hK hN (va_recv hK hP (ci := 2) (q0 := 5) rfl rfl) rfl hl.1 rfl (Nat.le_of_ble_eq_true rfl) d3 ⟨Nat.le_trans hc9.1 hcs.1, Nat.le_trans hc9.2 hcs.2⟩ ?_
  refine lv_iload hx hb d6 (lv_at hl 1 rfl) ?_
  refine lv_icmp_eq (tgt := t + 13) hx hb d8 (by omega) (fun _ => ?_) (fun c1 => absurd hth c1)
  refine lv_iload hx hb d13 (lv_at hl 1 rfl) ?_
  have hJ : W p l e room_1 s m args below meth c H locs c9 s9 Q (F0 m (t + 30) ls []) := by
    refine lv_goto (tgt := 1408) hx hb d30 hoff ?_
    refine W.widen (k := cells + 1) (n := slots + 6) hc9.1 hc9.2 ?_
    exact J a tr g v ot th a' o mn H locs ls hI hP hD hS (lv_sub hl [2, 3, 4, 5, 6] rfl)
  refine lv_if_ne (tgt := t + 30) hx hb d15 (by omega) (fun _ => hJ) (fun c1 => ?_)
  refine lv_aload_n hx hb d18 rfl (lv_at hl 5 rfl) ?_
  refine lv_iconst (v := 0) hx hb d19 (by decide) ?_
  refine q_lald hx hb hK hP 4 2 rfl rfl (hans c1) d20 ?_
  refine lv_iload hx hb d21 (lv_at hl 0 rfl) ?_
  refine lv_i2l (v := bv.toInt64) hx hb d23 rfl ?_
  refine W.lcmp hx hb d24 ?_
  refine lv_if_eq (tgt := t + 30) hx hb d25 (by omega) (fun _ => hJ) (fun c2 => absurd (lg_self _) c2)
/-- the same, where the answers are yes or no -/
theorem law_tailZ {z : Bool} (G : LG p l s m args c D cI cZ cJ A b L xs) (hcs : cells + 1 ≤ 1046 ∧ slots + 6 ≤ 25831) (hc9 : c9 ≤ cells + 1 ∧ s9 ≤ slots + 6) (J : JN p l e s m args below meth c cells slots Q D cI cZ cJ A b hT hB hV hG hX hM hO hW hY i)
    (d0 : decode cL_law t = .ok (.istore 6, 2)) (d2 : decode cL_law (t + 2) = .ok (.aload_n 2, 1)) (d3 : decode cL_law (t + 3) = .ok (.invokevirtual 96, 3)) (d6 : decode cL_law (t + 6) = .ok (.iload 5, 2)) (d8 : decode cL_law (t + 8) = .ok (.if_icmp .eq 5, 3)) (d13 : decode cL_law (t + 13) = .ok (.iload 5, 2)) (d15 : decode cL_law (t + 15) = .ok (.ifCond .ne 22, 3)) (d18 : decode cL_law (t + 18) = .ok (.aload_n 3, 1)) (d19 : decode cL_law (t + 19) = .ok (.iconst 0, 1)) (d20 : decode cL_law (t + 20) = .ok (.laload, 1)) (d21 : decode cL_law (t + 21) = .ok (.iload 6, 2)) (d23 : decode cL_law (t + 23) = .ok (.ifCond .eq 7, 3)) (d26 : decode cL_law (t + 26) = .ok (.lconst 1, 1)) (d27 : decode cL_law (t + 27) = .ok (.goto 4, 3)) (d30 : decode cL_law (t + 30) = .ok (.lconst 0, 1)) (d31 : decode cL_law (t + 31) = .ok (.lcmp, 1)) (d32 : decode cL_law (t + 32) = .ok (.ifCond .eq 5, 3)) (d37 : decode cL_law (t + 37) = .ok (.goto 3, 3)) (ht9 : t + 40 = 1408 := by decide)
    (hI : Inv a a' g tr v o) (hP : va_P D vwCl (LX cI cZ cJ hT hB hV hG hX hM hO hW hY a tr g v ot th a' o v mn) H) (hD : va_D A (LX cI cZ cJ hT hB hV hG hX hM hO hW hY a tr g v ot th a' o v mn)) (hS : va_S A s.heap H locs) (hl : lv_has ls 7 [(5, .int k), (0, .ref b), (1, .ref hT), (2, .ref hM), (3, .ref hX), (4, .int (nI i))]) (hth : th = k) (hans : k = 0 → ot 0 = (bI z).toInt64) : W p l e room_1 s m args below meth c H locs c9 s9 Q (F0 m t ls [.int (bI z)]) := by
  obtain ⟨hx, hb, hml, hown, htL, hK, hN, hY9, hNX, hst, hX9, hbl, hbA, hA, hZ, hL9⟩ := G
  refine lv_istore (lv' := [(6, .int (bI z)), (5, .int k), (0, .ref b), (1, .ref hT), (2, .ref hM), (3, .ref hX), (4, .int (nI i))]) hx hb d0 hl (by decide) rfl (fun ls hl => ?_)
  refine lv_aload_n hx hb d2 rfl (lv_at hl 4 rfl) ?_
  refine rd_V (b := hM) (As := []) (rest := []) ⟨hx, hb, hml, hown, htL⟩ (c_X2_thrown l D cI cZ cJ hM hO hW hY th a') (cwV 0 htL gL_law_X2_thrown rfl rfl rfl (by decide +kernel) ⟨Nat.le_of_ble_eq_true rfl, Nat.le_of_ble_eq_true rfl⟩) (hP.sub (ws' := [cM hM hO hW hY th a']) [5] rfl) hK hN (va_recv hK hP (ci := 2) (q0 := 5) rfl rfl) rfl hl.1 rfl (Nat.le_of_ble_eq_true rfl) d3 ⟨Nat.le_trans hc9.1 hcs.1, Nat.le_trans hc9.2 hcs.2⟩ ?_
  refine lv_iload hx hb d6 (lv_at hl 1 rfl) ?_
  refine lv_icmp_eq (tgt := t + 13) hx hb d8 (by omega) (fun _ => ?_) (fun c1 => absurd hth c1)
  refine lv_iload hx hb d13 (lv_at hl 1 rfl) ?_
  have hJ : W p l e room_1 s m args below meth c H locs c9 s9 Q (F0 m (t + 37) ls []) := by
    refine lv_goto (tgt := 1408) hx hb d37 (by omega) ?_
    refine W.widen (k := cells + 1) (n := slots + 6) hc9.1 hc9.2 ?_
    exact J a tr g v ot th a' o mn H locs ls hI hP hD hS (lv_sub hl [2, 3, 4, 5, 6] rfl)
  refine lv_if_ne (tgt := t + 37) hx hb d15 (by omega) (fun _ => hJ) (fun c1 => ?_)
  refine lv_aload_n hx hb d18 rfl (lv_at hl 5 rfl) ?_
  refine lv_iconst (v := 0) hx hb d19 (by decide) ?_
  refine q_lald hx hb hK hP 4 2 rfl rfl (hans c1) d20 ?_
  refine lv_iload hx hb d21 (lv_at hl 0 rfl) ?_
  refine lv_if_eq (tgt := t + 30) hx hb d23 (by omega) (fun c2 => ?_) (fun c2 => ?_)
  · refine lv_lconst (v := 0) hx hb d30 (by decide) ?_
    refine W.lcmp hx hb d31 ?_
    rw [c2, show (0 : Int32).toInt64 = 0 from rfl]
    exact lv_if_eq (tgt := t + 37) hx hb d32 (by omega) (fun _ => hJ) (fun c3 => absurd (lg_self _) c3)
  · have e1 : bI z = 1 := by
      cases z
      · exact absurd rfl c2
      · rfl
    refine lv_lconst (v := 1) hx hb d26 (by decide) ?_
    refine lv_goto (tgt := t + 31) hx hb d27 (by omega) ?_
    refine W.lcmp hx hb d31 ?_
    rw [e1, show (1 : Int32).toInt64 = 1 from rfl]
    exact lv_if_eq (tgt := t + 37) hx hb d32 (by omega) (fun _ => hJ) (fun c3 => absurd (lg_self _) c3)
end LawTail
