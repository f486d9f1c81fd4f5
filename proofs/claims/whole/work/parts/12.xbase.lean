/-! throws: the throw itself, and a callee's throw that goes on to the caller -/
section BaseThrow
variable {p : Program} {l : Launch} {e : Env} {R : Room} {s : State} {m : MethodId} {args : Array Value} {below : List Frame} {meth : Method} {c : Code} {cc bytes : ByteArray} {H : Heap} {locs : List Loc} {cells slots : Nat} {pc : Nat} {ls : Array Slot} {v k : Int32} {D : va_G} {cI cZ cJ : ClassId} {ws W0 Wc : va_W} {A : Nat → Prop} {own C host : String} {index maxL nL fr lo n : Nat} {y : MethodName} {ret : Option FieldType} {wy Ts : List Cond} {As rest st0 : List Value} {b : Addr}
abbrev nx2 : List String := ["java/lang/RuntimeException", "java/lang/Exception"]
theorem nx2_fit : ∀ n ∈ nx2, Bundle.fit n = true := by decide +kernel
theorem tx_throw (hx : p.tables.exec = Jvm.exec) (hb : c.code = cc) (hst : l.stackTraces = false) (hown : s.vm.findClass RX1 = some m.cls) {E text : String} {ik is ic : Nat} (hE : E = xnm k) (hfit : Bundle.fit E = true)
    (hlk : (Cond.classLink RX1 ik E).before args s = true) (hini : (Cond.initialized E).before args s = true) (hN : NM s) (i9 : Nat) (h9 : nlS[i9]? = some (is, text)) (j9 : Nat) (h8 : nlC[j9]? = some E)
    (hg : ∀ w ∈ (vx_atS RX1 ic E nx2).filter goodWord, w.before args s = true) (hng : ∀ w ∈ (vx_atS RX1 ic E nx2).filter (fun w => !goodWord w), w ∈ [Cond.castable E E]) (hot : ∀ w ∈ Cond.classLink RX1 ik E :: Cond.initialized E :: vx_atS RX1 ic E nx2, vx_ot w = true)
    (hZ : ZQ A s s.heap) (hS : va_S A s.heap H locs) (hP : va_P D vwCl W0 H) (hsize : ls.size = c.maxLocals)
    (d0 : decode cc pc = .ok (.new ik, 3)) (d3 : decode cc (pc + 3) = .ok (.dup, 1)) (d4 : decode cc (pc + 4) = .ok (.ldc is, 2)) (d6 : decode cc (pc + 6) = .ok (.invokespecial ic, 3)) (d9 : decode cc (pc + 9) = .ok (.athrow, 1))
    (hout : ∀ x ∈ c.exceptionTable.toList, False) (hRf : 5 < R.frames) (hRl : (rest.map fun v => v.category).sum + 82 ≤ R.locals) (hRc : 1 ≤ R.cells) (hRs : 6 ≤ R.slots) (hlocks : meth.locks = false) :
    W p l e R s m args below meth c H locs 0 0 (vx_MQ below (fun _ _ _ _ => False) (vx_X (fun (_ : Unit) => True) (fun E _ t => E = xnm k ∧ va_P D vwCl W0 t.heap) A) args s 1 6 A) (F0 m pc ls rest) := by
  obtain ⟨sa, hsa⟩ := hN.2.1 _ (List.mem_of_getElem? h9)
  have hat : ∀ w ∈ vx_atS RX1 ic E nx2, w.before args s = true := vx_hat hg hng (vx_c (va_Nw.use rfl (hN.2.2 _ (List.mem_of_getElem? h8))) vx_n)
  refine vx_throwS hx hb hst hown hfit nx2_fit hlk hini hsa hat hot hZ.1 hZ.2 hS hsize d0 d3 d4 d6 d9 (fun x h => absurd (hout x h) id) hRf hRl (by simpa using hRc) (by simpa using hRs) hlocks ?_ hS.2.2 (by simp) (by simp)
  intro t _ hz hq
  refine ⟨(), trivial, ⟨hE, hP.kept (fun i q hi => hq q.1 (hP i q hi).lt)⟩, Nat.le_trans hS.1 hz, fun q h1 h2 => (hq q (Nat.lt_of_lt_of_le h1 hS.1)).trans (hS.2.1 q h1 h2)⟩
theorem tx_call {a : Array Value} (hr : vx_Run p l e R s m args below meth c H locs 0 0 1 6 (F0 m pc ls st0) rest (fun _ _ _ => False) (vx_X (fun (_ : Unit) => True) (fun E _ t => E = xnm k ∧ va_P D vwCl Wc t.heap) (va_A Wc H.size)) (va_A Wc H.size))
    (hP : va_P D vwCl ws H) (hD : va_D A ws) (hS : va_S A s.heap H locs) (hA : ∀ q : Nat, s.heap.size ≤ q → A q) (isC isR : List Nat) (hC : isC.map (fun i => ws[i]?) = Wc.map some) (k9 : Nat) (hlen : ws.length = k9) (hall : ∀ i, i < k9 → i ∈ isC ∨ i ∈ isR) (hdis : ∀ i ∈ isR, i ∉ isC)
    (hout : ∀ x ∈ c.exceptionTable.toList, False) (hlocks : meth.locks = false) :
    W p l e R s m args below meth c H locs 0 0 (vx_MQ below (fun _ _ _ _ => False) (vx_X (fun (_ : Unit) => True) (fun E _ t => E = xnm k ∧ va_P D vwCl ws t.heap) A) args s 1 6 A) (F0 m pc ls st0) := by
  have hFc := va_free hD hS hA isC hC
  intro T hT X
  rcases hr T hT X with ⟨v, st₀, t, T', L, h0, X', hL, e1, e2, hq, st⟩ | ⟨q, st₀, t, T', L, E, ce, h0, X', hL, e1, e2, ⟨u, -, ⟨hE, hB⟩, hF⟩, hce, hcv, hcl, st⟩
  · exact hq.elim
  · obtain ⟨k1, k2, k3⟩ := vx_keep h0 e1 hS (fun q _ h => hFc q h) hFc hL hF
    rw [← e1] at hB
    obtain ⟨hP2, -⟩ := wd_back hP hD isC isR hC hC (fun _ _ => rfl) rfl (by rw [hlen]; exact hall) hdis k2 hB
    obtain ⟨t2, a1, b1⟩ := vx_out (p := p) (l := l) (e := e) (R := R) (s := s) (m := m) (args := args) (below := below) (meth := meth) (c := c) (H := T'.heap) (locs := locs ++ L) (cells := 0 + 1) (slots := 0 + 6) (Qc := fun _ _ _ _ => False) (XC := vx_X (fun (_ : Unit) => True) (fun E _ t => E = xnm k ∧ va_P D vwCl ws t.heap) A) (free := A) (pc := pc) (ls := ls) (rest := rest) (E := E) (ce := ce) (q := q) (mc := 1) (ms := 6)
      (fun x h => absurd (hout x h) id) hlocks (by rw [e1]; exact hce) hcv hcl (fun t9 ht9 _ => ⟨(), trivial, ⟨hE, by rw [ht9]; exact hP2⟩, by rw [ht9]; exact k3.1, fun q h1 h2 => by rw [ht9]; exact k3.2.1 q h1 h2⟩) k3.2.2 (by omega) (by omega) T' rfl X'
    exact ⟨t2, st.trans a1, b1⟩
theorem tx_V (S : CallFix p m c cc nL s args Ts own) (hM : Tx l D cI cZ cJ y wy fr lo H.size (.ref b :: As) Wc k) (cw : CallW R s args own C index y bytes maxL ret wy (rmX fr lo) 1 6 n)
    (hP : va_P D vwCl ws H) (hD : va_D A ws) (hK : va_K D vwCl (tys9 cI cZ cJ) s) (hN : NM s) (hS : va_S A s.heap H locs) (hA : ∀ q : Nat, s.heap.size ≤ q → A q) (hZ : ZQ A s s.heap) (hrec : ∃ cell : Cell, H[b]? = some cell ∧ cell.vm.isStatics = false ∧ s.vm.findClass C = some cell.cls) (hn : As.length = n) (hsize : ls.size = nL) (hst : st0 = As.reverse ++ .ref b :: rest) (hW : (rest.map fun v => v.category).sum ≤ 8) (hdg : decode cc pc = .ok (.invokevirtual index, 3)) (hf : 1 ≤ R.cells ∧ 6 ≤ R.slots)
    (isC isR : List Nat) (hnd : va_nd isC = true) (hC : isC.map (fun i => ws[i]?) = Wc.map some) (k9 : Nat) (hlen : ws.length = k9) (hall : ∀ i, i < k9 → i ∈ isC ∨ i ∈ isR) (hdis : ∀ i ∈ isR, i ∉ isC) (hout : ∀ x ∈ c.exceptionTable.toList, False) (hlocks : meth.locks = false) :
    W p l e R s m args below meth c H locs 0 0 (vx_MQ below (fun _ _ _ _ => False) (vx_X (fun (_ : Unit) => True) (fun E _ t => E = xnm k ∧ va_P D vwCl ws t.heap) A) args s 1 6 A) (F0 m pc ls st0) := by
  have hPc : va_P D vwCl Wc H := wd_cut hP isC hC
  have hDc : va_D A Wc := hD.sub isC hnd hC
  have hFc := va_free hD hS hA isC hC
  have hb9 := xb_in hPc hK hN hDc (hZ.S hS) hFc (.ref b :: As)
  exact tx_call (a := (Value.ref b :: As).toArray) (vx_runV (As := As) (rest := rest) (b := b) S hM cw ⟨hb9.1, hrec, hb9.2⟩ rfl hn hsize hst (lv_room hW) hdg (by simpa using hf)) hP hD hS hA isC isR hC k9 hlen hall hdis hout hlocks
end BaseThrow
