/-! methods with a table of their own: the law's helpers, which catch -/
def nlX : List (String × String) := [("java/lang/IllegalStateException", "java/lang/IndexOutOfBoundsException"), ("java/lang/IllegalStateException", "java/lang/IllegalArgumentException"), ("java/lang/IllegalStateException", "java/util/NoSuchElementException"), ("java/lang/IndexOutOfBoundsException", "java/lang/IllegalStateException"), ("java/lang/IndexOutOfBoundsException", "java/lang/IllegalArgumentException"), ("java/lang/IndexOutOfBoundsException", "java/util/NoSuchElementException"), ("java/lang/IllegalArgumentException", "java/lang/IllegalStateException"), ("java/lang/IllegalArgumentException", "java/lang/IndexOutOfBoundsException"), ("java/lang/IllegalArgumentException", "java/util/NoSuchElementException"), ("java/util/NoSuchElementException", "java/lang/IllegalStateException"), ("java/util/NoSuchElementException", "java/lang/IndexOutOfBoundsException"), ("java/util/NoSuchElementException", "java/lang/IllegalArgumentException")]
/-- the exceptions' classes are apart -/
def NX (U : State) : Prop := ∀ q ∈ nlX, va_Nc q.1 q.2 U
theorem NX.moved {u U : State} (h : u.vm.Alike U.vm) (k : NX u) : NX U := fun q hq => va_Nc.moved h (k q hq)
theorem NX.at {s : State} (k : NX s) (i : Nat) {q : String × String} (h : nlX[i]? = some q) : va_Nc q.1 q.2 s := k q (List.mem_of_getElem? h)
def XL (D : va_G) (cI cZ cJ : ClassId) (W0 : va_W) (sz : Nat) (U : State) : Prop := XD D cI cZ cJ W0 sz U ∧ NX U
theorem XL.blind {D : va_G} {cI cZ cJ : ClassId} {W0 : va_W} {sz : Nat} {av : List Value} : FrameBlind (va_Pc av (XL D cI cZ cJ W0 sz)) := fun a U g mk q => ⟨q.1, (XD.blind (av := av) a U g mk ⟨q.1, q.2.1⟩).2, NX.moved (u := U) (U := U.calling g mk a) (Vm.Alike.refl U.vm) q.2.2⟩
/-- catches, answers v, the world as it was; the exception's cell is new -/
def Mx (l : Launch) (D : va_G) (cI cZ cJ : ClassId) (y : MethodName) (ws : List Cond) (fr lo sz : Nat) (av : List Value) (W0 : va_W) (v : Int32) : Prop := Met l y ws (rmX fr lo) (va_Pc av (XL D cI cZ cJ W0 sz)) (va_Qi (fun r (_ : Unit) => r = v) (fun _ t => va_P D vwCl W0 t.heap ∧ sz + 1 ≤ t.heap.size) (va_A W0 sz)) 1 6 (va_A W0 sz)
theorem met_ofWH {l : Launch} {y : MethodName} {ws ws' : List Cond} {rm : Room} {Pc : Array Value → State → Prop} {Qc : Array Value → State → Outcome → State → Prop} {mc ms : Nat} {free : Addr → Prop} {cc : ByteArray} {maxL : Nat} {ret : Option FieldType} {hh : List (Nat × Nat × Nat × Nat)}
    (hy : plainName y.cls = true) (hw : ws = Cond.codeWith y cc maxL ret hh :: ws')
    (body : ∀ p e s m args below meth c s₁, BodyLoose p l y (headSpec ws rm) cc maxL ret e s m args below meth c s₁ → c.maxLocals = maxL → c.exceptionTable.toList = tableOf hh → Pc args s →
      W p l e (headSpec ws rm).room s m args below meth c s.heap [] 0 0 (MQ below Qc args s mc ms free) (entryFrame m args maxL)) : Met l y ws rm Pc Qc mc ms free := by
  refine MetFree.of_bodyS (code := cc) (maxLocals := maxL) (ret := ret) hy ?_ ?_
  · intro args s m h hn
    obtain ⟨m9, meth, c, hn9, h1, h2, h3, h4, -, h5, h6, -⟩ := Cond.codeWith_spec (atoms_spec (ws := ws) h _ (by rw [hw]; exact List.mem_cons_self))
    cases hn.symm.trans hn9
    exact ⟨meth, c, h1, h2, h3, h4, h5, h6⟩
  · intro p e s m args below meth c s₁ B hml hP _
    have hh0 : s₁.heap = s.heap := by rw [B.state]; rfl
    have ht := vx_table (x := y) B (atoms_spec (ws := ws) B.pre _ (by rw [hw]; exact List.mem_cons_self))
    obtain ⟨t, a1, o, b1, b2, b3⟩ := body p e s m args below meth c s₁ B hml ht hP s₁ hh0 (Stand.of_body B)
    exact ⟨t, o, a1, b1, b2, ⟨b3.1, b3.2⟩⟩
section BaseOfH
variable {l : Launch} {D : va_G} {cI cZ cJ : ClassId} {y : MethodName} {ws ws' : List Cond} {fr lo : Nat} {av : List Value} {W0 W1 : va_W} {v : Int32} {cc : ByteArray} {maxL : Nat} {ret : Option FieldType} {hh : List (Nat × Nat × Nat × Nat)}
theorem mi_ofH {sz : Nat} (hy : plainName y.cls = true) (hw : ws = Cond.codeWith y cc maxL ret hh :: ws') (hav : (lg_sl av).length ≤ maxL)
    (body : ∀ (p : Program) (e : Env) (s : State) (m : MethodId) (below : List Frame) (meth : Method) (c : Code) (ls : Array Slot) (A : Nat → Prop), p.tables.exec = Jvm.exec → c.code = cc → meth.sig.returnType = ret → c.maxLocals = maxL → (∀ w ∈ ws, w.before av.toArray s = true) → s.vm.findClass y.cls = some m.cls → meth.locks = false → va_P D vwCl W0 s.heap → va_K D vwCl (tys9 cI cZ cJ) s → NM s → va_D A W0 → (∀ q : Nat, s.heap.size ≤ q → A q) → va_S A s.heap s.heap [] → lv_has ls maxL (lv_args 0 av) →
      W p l e (rmR fr lo) s m av.toArray below meth c s.heap [] 0 0 (MQ below (va_Qi (fun r (_ : Unit) => r = v) (fun _ t => va_P D vwCl W1 t.heap) A) av.toArray s 0 0 A) (F0 m 0 ls [])) : Mi l D cI cZ cJ y ws fr lo sz av W0 W1 v := by
  refine met_ofWH (cc := cc) (maxL := maxL) (ret := ret) (hh := hh) hy hw ?_
  intro p e s m args below meth c s₁ B hml ht hv
  obtain ⟨rfl, hsz, hP, hK, hN, hD0⟩ := hv
  subst hsz
  have hl := lv_entry av (n := maxL) hav
  rw [lg_entry_eq]
  exact body p e s m below meth c _ _ B.exec B.bytes B.returns hml (atoms_spec (ws := ws) B.pre) (findClass_of_methodNamed B.named) B.notSynchronized hP hK hN (hD0.self (sz := s.heap.size)) (fun q h => Or.inr h) va_S.rf hl
theorem mx_ofH {sz : Nat} (hy : plainName y.cls = true) (hw : ws = Cond.codeWith y cc maxL ret hh :: ws') (hav : (lg_sl av).length ≤ maxL)
    (body : ∀ (p : Program) (e : Env) (s : State) (m : MethodId) (below : List Frame) (meth : Method) (c : Code) (ls : Array Slot) (A : Nat → Prop), p.tables.exec = Jvm.exec → c.code = cc → meth.sig.returnType = ret → c.maxLocals = maxL → (∀ w ∈ ws, w.before av.toArray s = true) → s.vm.findClass y.cls = some m.cls → meth.locks = false → c.exceptionTable.toList = tableOf hh → va_P D vwCl W0 s.heap → va_K D vwCl (tys9 cI cZ cJ) s → NM s → va_D A W0 → (∀ q : Nat, s.heap.size ≤ q → A q) → va_S A s.heap s.heap [] → ZQ A s s.heap → ND s → NX s → lv_has ls maxL (lv_args 0 av) →
      W p l e (rmX fr lo) s m av.toArray below meth c s.heap [] 0 0 (MQ below (va_Qi (fun r (_ : Unit) => r = v) (fun _ t => va_P D vwCl W0 t.heap ∧ s.heap.size + 1 ≤ t.heap.size) A) av.toArray s 1 6 A) (F0 m 0 ls [])) : Mx l D cI cZ cJ y ws fr lo sz av W0 v := by
  refine met_ofWH (cc := cc) (maxL := maxL) (ret := ret) (hh := hh) hy hw ?_
  intro p e s m args below meth c s₁ B hml ht hv
  obtain ⟨rfl, ⟨⟨⟨hsz, hP, hK, hN, hD0⟩, hZ⟩, hY⟩, hX⟩ := hv
  subst hsz
  have hl := lv_entry av (n := maxL) hav
  rw [lg_entry_eq]
  exact body p e s m below meth c _ _ B.exec B.bytes B.returns hml (atoms_spec (ws := ws) B.pre) (findClass_of_methodNamed B.named) B.notSynchronized ht hP hK hN (hD0.self (sz := s.heap.size)) (fun q h => Or.inr h) va_S.rf hZ hY hX hl
end BaseOfH
section BaseCatch
variable {p : Program} {l : Launch} {e : Env} {R : Room} {s : State} {m : MethodId} {args : Array Value} {below : List Frame} {meth : Method} {c : Code} {cc bytes : ByteArray} {H H0 : Heap} {locs : List Loc} {cells slots : Nat} {pc : Nat} {ls : Array Slot} {v v' k : Int32} {D : va_G} {cI cZ cJ : ClassId} {ws W0 Wc : va_W} {A : Nat → Prop} {own C host : String} {index maxL nL fr lo n : Nat} {y : MethodName} {ret : Option FieldType} {wy Ts : List Cond} {As rest st0 : List Value} {b a : Addr} {Q : State → Prop} {tys : List (ClassId × FieldType)}
theorem mx_iret (hx : p.tables.exec = Jvm.exec) (hb : c.code = cc) (hr : meth.sig.returnType = some .int) (hlocks : meth.locks = false) (hS : va_S A s.heap H locs) (hp : v' = v) (hP : va_P D vwCl W0 H) (hG : s.heap.size + 1 ≤ H.size) (hdg : decode cc pc = .ok (.ireturn, 1)) : W p l e R s m args below meth c H locs 1 6 (MQ below (va_Qi (fun r (_ : Unit) => r = v) (fun _ t => va_P D vwCl W0 t.heap ∧ s.heap.size + 1 ≤ t.heap.size) A) args s 1 6 A) (F0 m pc ls [.int v']) :=
  W.iret hx hb hr (fun t ht _ => ⟨⟨v', (), rfl, hp, by show va_P D vwCl W0 t.heap ∧ s.heap.size + 1 ≤ t.heap.size; rw [ht]; exact ⟨hP, hG⟩⟩, hS.F ht⟩) hS.2.2 hdg hlocks
/-- a call that throws, seen by the caller that may catch it -/
theorem xc_V (S : CallFix p m c cc nL s args Ts own) (hM : Ty l D cI cZ cJ y wy fr lo H.size (.ref b :: As) Wc k) (cw : CallW R s args own C index y bytes maxL ret wy (rmX fr lo) 1 6 n)
    (hP : va_P D vwCl ws H) (hD : va_D A ws) (hK : va_K D vwCl (tys9 cI cZ cJ) s) (hN : NM s) (hY : ND s) (hS : va_S A s.heap H locs) (hA : ∀ q : Nat, s.heap.size ≤ q → A q) (hZ : ZQ A s s.heap) (hrec : ∃ cell : Cell, H[b]? = some cell ∧ cell.vm.isStatics = false ∧ s.vm.findClass C = some cell.cls) (hn : As.length = n) (hsize : ls.size = nL) (hst : st0 = As.reverse ++ .ref b :: rest) (hW : (rest.map fun v => v.category).sum ≤ 8) (hdg : decode cc pc = .ok (.invokevirtual index, 3)) (hf : cells + 1 ≤ R.cells ∧ slots + 6 ≤ R.slots)
    (isC isR : List Nat) (hnd : va_nd isC = true) (hC : isC.map (fun i => ws[i]?) = Wc.map some) (k9 : Nat) (hlen : ws.length = k9) (hall : ∀ i, i < k9 → i ∈ isC ∨ i ∈ isR) (hdis : ∀ i ∈ isR, i ∉ isC)
    (kk : ∀ (H1 : Heap) (locs : List Loc) (q : Nat) (ce : Cell), va_P D vwCl ws H1 → va_D A ws → va_S A s.heap H1 locs → H.size + 1 ≤ H1.size → H1[q]? = some ce → ce.vm = .none → s.vm.findClass (xnm k) = some ce.cls → vx_W p l e R s m args below meth c H1 locs (cells + 1) (slots + 6) Q (F0 m pc ls rest) q) :
    W p l e R s m args below meth c H locs cells slots Q (F0 m pc ls st0) := by
  have hPc : va_P D vwCl Wc H := wd_cut hP isC hC
  have hDc : va_D A Wc := hD.sub isC hnd hC
  have hFc := va_free hD hS hA isC hC
  have hb9 := xb_in hPc hK hN hDc (hZ.S hS) hFc (.ref b :: As)
  have hr := vx_runV (e := e) (below := below) (meth := meth) (R := R) (cells := cells) (slots := slots) (locs := locs) (g := F0 m pc ls st0) (As := As) (rest := rest) (b := b) S hM cw ⟨XD.blind, hrec, fun U hU hW9 => ⟨(hb9.2 U hU hW9).1, (hb9.2 U hU hW9).2, ND.warm hW9 hY⟩⟩ rfl hn hsize hst (lv_room hW) hdg hf
  intro T hT X
  rcases hr T hT X with ⟨v, st₀, t, T', L, h0, X', hL, e1, e2, hq, st⟩ | ⟨q, st₀, t, T', L, E, ce, h0, X', hL, e1, e2, ⟨u, -, ⟨hE, hB, hG⟩, hF⟩, hce, hcv, hcl, st⟩
  · exact hq.elim
  · obtain ⟨k1, k2, k3⟩ := vx_keep h0 e1 hS (fun q _ h => hFc q h) hFc hL hF
    rw [← e1] at hB
    obtain ⟨hP2, hD2⟩ := wd_back hP hD isC isR hC hC (fun _ _ => rfl) rfl (by rw [hlen]; exact hall) hdis k2 hB
    obtain ⟨t2, a1, b1⟩ := kk T'.heap (locs ++ L) q ce hP2 hD2 k3 (by rw [e1]; exact hG) (by rw [e1]; exact hce) hcv (by rw [← hE]; exact hcl) T' rfl X'
    exact ⟨t2, st.trans a1, b1⟩
end BaseCatch
