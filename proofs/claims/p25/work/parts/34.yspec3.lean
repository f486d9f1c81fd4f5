def yMay (a : Nat → Int32) (tr q bits : Int32) (b : Bool) : Bool := decide (a 0 = 1) && yIn (a 6) q && yAg tr q bits b
def kYs (pl wi se gu : Int32) : Int32 := if yGood pl wi se gu = true then 0 else 3
def kYc (a : Nat → Int32) (tr q k r : Int32) : Int32 := if a 0 = 0 then 1 else if yPl a q = false then 2 else if yPl a r = false then 2 else if k < 0 then 3 else if k ≤ 3 then (if yMay a tr q (yCb k r) (!decide (k = 1)) = true then 0 else 4) else 3
def kYa (a : Nat → Int32) (tr q st : Int32) : Int32 := if a 0 = 0 then 1 else if yPl a q = false then 2 else if st &&& (xAll (a 2) ^^^ (-1)) = 0 then (if yMay a tr q st true = true then 0 else 4) else 3
def kYv (a : Nat → Int32) (q r : Int32) : Int32 := if a 0 = 1 then (if yPl a q = false then 2 else if yPl a r = false then 2 else if yIn (a 6) q = false then 3 else if yIn (a 6) r = false then 3 else 0) else 1
def kYh (a : Nat → Int32) (k : Int32) : Int32 := if a 0 = k then 0 else 1
def kYp (a : Nat → Int32) (q : Int32) : Int32 := if a 0 = 2 then (if yIn (a 6) (a 5) = false then 1 else if yPl a q = false then 2 else if yIn (a 6) q = false then 3 else if q = a 11 then 3 else 0) else 1
def kYt (a : Nat → Int32) (q : Int32) : Int32 := if a 0 = 2 then (if yPl a q = false then 2 else if yIn (a 6) q = false then 3 else if yIn (a 3) q = true then 3 else 0) else 1
def kYl (a : Nat → Int32) (q : Int32) : Int32 := if a 0 = 2 then (if yIn (a 6) (a 4) = false then 1 else if yPl a q = false then 2 else if yIn (a 6) q = false then 3 else if q = a 4 then 3 else 0) else 1
def kYg (a : Nat → Int32) : Int32 := if a 0 = 0 then 1 else 0
def kYo (a : Nat → Int32) (q : Int32) : Int32 := if a 0 = 0 then 1 else if yPl a q = false then 2 else 0
def kYw (a : Nat → Int32) (q : Int32) : Int32 := if a 0 = 0 then 1 else if yVw a q = false then 2 else 0
def kYx (a : Nat → Int32) (q r k : Int32) : Int32 := if a 0 = 0 then 1 else if yVw a q = false then 2 else if yPl a r = false then 2 else if k < 0 then 3 else if k ≤ 3 then 0 else 3
def kYi (a : Nat → Int32) (q r u : Int32) : Int32 := if a 0 = 0 then 1 else if yVw a q = false then 2 else if yPl a r = false then 2 else if yPl a u = false then 2 else 0

/-! throws again, with the words that a throw asks for beside NM: the constructors that Throwable's line declares -/
def nlD : List MethodName := [Bundle.initS "java/lang/RuntimeException", Bundle.initS "java/lang/Exception", Bundle.initS "java/lang/Throwable"]
def ND (U : State) : Prop := ∀ x ∈ nlD, va_Nw (.declares x) U
theorem ND.same {u U : State} (h : u.vm = U.vm) (k : ND u) : ND U := fun x hx => va_Nw.same rfl h (k x hx)
theorem ND.warm {s U : State} (hW : s.WarmedH U.vm) (k : ND s) : ND U := fun x hx => va_Nw.warmD hW (k x hx)
def XD (D : va_G) (cI cZ cJ : ClassId) (W0 : va_W) (sz : Nat) (U : State) : Prop := XB D cI cZ cJ W0 sz U ∧ ND U
theorem XD.blind {D : va_G} {cI cZ cJ : ClassId} {W0 : va_W} {sz : Nat} {av : List Value} : FrameBlind (va_Pc av (XD D cI cZ cJ W0 sz)) := fun a U g mk q => ⟨q.1, (XB.blind (av := av) a U g mk ⟨q.1, q.2.1⟩).2, ND.same (u := U) rfl q.2.2⟩
def Ty (l : Launch) (D : va_G) (cI cZ cJ : ClassId) (y : MethodName) (ws : List Cond) (fr lo sz : Nat) (av : List Value) (W0 : va_W) (k : Int32) : Prop := vx_Met l y ws (rmX fr lo) (va_Pc av (XD D cI cZ cJ W0 sz)) (fun _ _ _ _ => False) (vx_X (fun (_ : Unit) => True) (fun E _ t => E = xnm k ∧ va_P D vwCl W0 t.heap ∧ sz + 1 ≤ t.heap.size) (va_A W0 sz)) 1 6 (va_A W0 sz)
section BaseOf2
variable {l : Launch} {D : va_G} {cI cZ cJ : ClassId} {y : MethodName} {ws ws' : List Cond} {fr lo : Nat} {av : List Value} {W0 W1 : va_W} {v : Int32} {cc : ByteArray} {maxL : Nat} {ret : Option FieldType}

theorem ty_of {sz : Nat} {k : Int32} (hy : plainName y.cls = true) (hw : ws = Cond.code y cc maxL ret :: ws') (hav : (lg_sl av).length ≤ maxL)
    (body : ∀ (p : Program) (e : Env) (s : State) (m : MethodId) (below : List Frame) (meth : Method) (c : Code) (ls : Array Slot) (A : Nat → Prop), p.tables.exec = Jvm.exec → c.code = cc → meth.sig.returnType = ret → c.maxLocals = maxL → (∀ w ∈ ws, w.before av.toArray s = true) → s.vm.findClass y.cls = some m.cls → meth.locks = false → (∀ x ∈ c.exceptionTable.toList, False) → va_P D vwCl W0 s.heap → va_K D vwCl (tys9 cI cZ cJ) s → NM s → va_D A W0 → (∀ q : Nat, s.heap.size ≤ q → A q) → va_S A s.heap s.heap [] → ZQ A s s.heap → ND s → lv_has ls maxL (lv_args 0 av) →
      W p l e (rmX fr lo) s m av.toArray below meth c s.heap [] 0 0 (vx_MQ below (fun _ _ _ _ => False) (vx_X (fun (_ : Unit) => True) (fun E _ t => E = xnm k ∧ va_P D vwCl W0 t.heap ∧ s.heap.size + 1 ≤ t.heap.size) A) av.toArray s 1 6 A) (F0 m 0 ls [])) : Ty l D cI cZ cJ y ws fr lo sz av W0 k := by
  refine vx_ofW (cc := cc) (maxL := maxL) (ret := ret) hy hw ?_
  intro p e s m args below meth c s₁ B hml ht hv
  obtain ⟨rfl, ⟨⟨hsz, hP, hK, hN, hD0⟩, hZ⟩, hY⟩ := hv
  subst hsz
  have hl := lv_entry av (n := maxL) hav
  rw [lg_entry_eq]
  exact body p e s m below meth c _ _ B.exec B.bytes B.returns hml (atoms_spec (ws := ws) B.pre) (findClass_of_methodNamed B.named) B.notSynchronized ht hP hK hN (hD0.self (sz := s.heap.size)) (fun q h => Or.inr h) va_S.rf hZ hY hl
end BaseOf2

section BaseThrow2
variable {p : Program} {l : Launch} {e : Env} {R : Room} {s : State} {m : MethodId} {args : Array Value} {below : List Frame} {meth : Method} {c : Code} {cc bytes : ByteArray} {H : Heap} {locs : List Loc} {cells slots : Nat} {pc : Nat} {ls : Array Slot} {v k : Int32} {D : va_G} {cI cZ cJ : ClassId} {ws W0 Wc : va_W} {A : Nat → Prop} {own C host : String} {index maxL nL fr lo n : Nat} {y : MethodName} {ret : Option FieldType} {wy Ts : List Cond} {As rest st0 : List Value} {b : Addr}

theorem ty_throw (hx : p.tables.exec = Jvm.exec) (hb : c.code = cc) (hst : l.stackTraces = false) (hown : s.vm.findClass RX1 = some m.cls) {E text : String} {ik is ic : Nat} (hE : E = xnm k) (hfit : Bundle.fit E = true)
    (hlk : (Cond.classLink RX1 ik E).before args s = true) (hini : (Cond.initialized E).before args s = true) (hN : NM s) (hY : ND s) (i9 : Nat) (h9 : nlS[i9]? = some (is, text)) (j9 : Nat) (h8 : nlC[j9]? = some E)
    (hg : ∀ w ∈ (vx_atS RX1 ic E nx2).filter goodWord, w.before args s = true) (hng : ∀ w ∈ (vx_atS RX1 ic E nx2).filter (fun w => !goodWord w), w ∈ Cond.castable E E :: nlD.map Cond.declares) (hot : ∀ w ∈ Cond.classLink RX1 ik E :: Cond.initialized E :: vx_atS RX1 ic E nx2, vx_ot w = true)
    (hZ : ZQ A s s.heap) (hS : va_S A s.heap H locs) (hP : va_P D vwCl W0 H) (hsize : ls.size = c.maxLocals)
    (d0 : decode cc pc = .ok (.new ik, 3)) (d3 : decode cc (pc + 3) = .ok (.dup, 1)) (d4 : decode cc (pc + 4) = .ok (.ldc is, 2)) (d6 : decode cc (pc + 6) = .ok (.invokespecial ic, 3)) (d9 : decode cc (pc + 9) = .ok (.athrow, 1))
    (hout : ∀ x ∈ c.exceptionTable.toList, False) (hRf : 5 < R.frames) (hRl : (rest.map fun v => v.category).sum + 82 ≤ R.locals) (hRc : 1 ≤ R.cells) (hRs : 6 ≤ R.slots) (hlocks : meth.locks = false) :
    W p l e R s m args below meth c H locs 0 0 (vx_MQ below (fun _ _ _ _ => False) (vx_X (fun (_ : Unit) => True) (fun E _ t => E = xnm k ∧ va_P D vwCl W0 t.heap ∧ s.heap.size + 1 ≤ t.heap.size) A) args s 1 6 A) (F0 m pc ls rest) := by
  obtain ⟨sa, hsa⟩ := hN.2.1 _ (List.mem_of_getElem? h9)
  have hat : ∀ w ∈ vx_atS RX1 ic E nx2, w.before args s = true := vx_hat hg hng (vx_c (va_Nw.use rfl (hN.2.2 _ (List.mem_of_getElem? h8))) (fun w hw => by
    obtain ⟨x, hx9, rfl⟩ := List.mem_map.mp hw
    exact va_Nw.use rfl (hY x hx9)))
  refine vx_throwS hx hb hst hown hfit nx2_fit hlk hini hsa hat hot hZ.1 hZ.2 hS hsize d0 d3 d4 d6 d9 (fun x h => absurd (hout x h) id) hRf hRl (by simpa using hRc) (by simpa using hRs) hlocks ?_ hS.2.2 (by simp) (by simp)
  intro t _ hz hq
  refine ⟨(), trivial, ⟨hE, hP.kept (fun i q hi => hq q.1 (hP i q hi).lt), Nat.le_trans (Nat.add_le_add_right hS.1 1) hz⟩, Nat.le_trans hS.1 (Nat.le_of_succ_le hz), fun q h1 h2 => (hq q (Nat.lt_of_lt_of_le h1 hS.1)).trans (hS.2.1 q h1 h2)⟩

theorem ty_V (S : CallFix p m c cc nL s args Ts own) (hM : Ty l D cI cZ cJ y wy fr lo H.size (.ref b :: As) Wc k) (cw : CallW R s args own C index y bytes maxL ret wy (rmX fr lo) 1 6 n)
    (hP : va_P D vwCl ws H) (hD : va_D A ws) (hK : va_K D vwCl (tys9 cI cZ cJ) s) (hN : NM s) (hY : ND s) (hS : va_S A s.heap H locs) (hA : ∀ q : Nat, s.heap.size ≤ q → A q) (hZ : ZQ A s s.heap) (hrec : ∃ cell : Cell, H[b]? = some cell ∧ cell.vm.isStatics = false ∧ s.vm.findClass C = some cell.cls) (hn : As.length = n) (hsize : ls.size = nL) (hst : st0 = As.reverse ++ .ref b :: rest) (hW : (rest.map fun v => v.category).sum ≤ 8) (hdg : decode cc pc = .ok (.invokevirtual index, 3)) (hf : 1 ≤ R.cells ∧ 6 ≤ R.slots)
    (isC isR : List Nat) (hnd : va_nd isC = true) (hC : isC.map (fun i => ws[i]?) = Wc.map some) (k9 : Nat) (hlen : ws.length = k9) (hall : ∀ i, i < k9 → i ∈ isC ∨ i ∈ isR) (hdis : ∀ i ∈ isR, i ∉ isC) (hout : ∀ x ∈ c.exceptionTable.toList, False) (hlocks : meth.locks = false) :
    W p l e R s m args below meth c H locs 0 0 (vx_MQ below (fun _ _ _ _ => False) (vx_X (fun (_ : Unit) => True) (fun E _ t => E = xnm k ∧ va_P D vwCl ws t.heap ∧ s.heap.size + 1 ≤ t.heap.size) A) args s 1 6 A) (F0 m pc ls st0) := by
  have hPc : va_P D vwCl Wc H := wd_cut hP isC hC
  have hDc : va_D A Wc := hD.sub isC hnd hC
  have hFc := va_free hD hS hA isC hC
  have hb9 := xb_in hPc hK hN hDc (hZ.S hS) hFc (.ref b :: As)
  exact tx_call (a := (Value.ref b :: As).toArray) (vx_runV (As := As) (rest := rest) (b := b) S hM cw ⟨XD.blind, hrec, fun U hU hW9 => ⟨(hb9.2 U hU hW9).1, (hb9.2 U hU hW9).2, ND.warm hW9 hY⟩⟩ rfl hn hsize hst (lv_room hW) hdg (by simpa using hf)) hP hD hS hA isC isR hC k9 hlen hall hdis hout hlocks
end BaseThrow2
