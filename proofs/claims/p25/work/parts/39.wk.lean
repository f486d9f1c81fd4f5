/-! weak contracts for the law's own methods: what they answer is told only as far as the way goes on; how the heap grows is told -/
abbrev rmC (fr lo cs ss : Nat) : Room := { frames := fr, cells := cs, slots := ss, locals := lo }
/-- reads its world, answers some v with P v -/
def Rp (l : Launch) (D : va_G) (cI cZ cJ : ClassId) (y : MethodName) (ws : List Cond) (fr lo : Nat) (av : List Value) (W0 : va_W) (P : Int32 → Prop) : Prop := Met l y ws (rmR fr lo) (va_Pc av (RB D cI cZ cJ W0)) (vp_Si P) 0 0 (fun _ => False)
/-- makes the world W1 u of the world W0, answers some v with P v u, and the heap has grown by gr u cells at least -/
def Mg {α : Type} (l : Launch) (D : va_G) (cI cZ cJ : ClassId) (y : MethodName) (ws : List Cond) (fr lo cs ss sz : Nat) (av : List Value) (W0 : va_W) (W1 : α → va_W) (P : Int32 → α → Prop) (gr : α → Nat) : Prop := Met l y ws (rmC fr lo cs ss) (va_Pc av (XL D cI cZ cJ W0 sz)) (va_Qi P (fun u t => va_P D vwCl (W1 u) t.heap ∧ sz + gr u ≤ t.heap.size) (va_A W0 sz)) cs ss (va_A W0 sz)
def Mgv {α : Type} (l : Launch) (D : va_G) (cI cZ cJ : ClassId) (y : MethodName) (ws : List Cond) (fr lo sz : Nat) (av : List Value) (W0 : va_W) (W1 : α → va_W) : Prop := Met l y ws (rmR fr lo) (va_Pc av (MB D cI cZ cJ W0 sz)) (va_Qv (fun (_ : α) => True) (fun u t => va_P D vwCl (W1 u) t.heap) (va_A W0 sz)) 0 0 (va_A W0 sz)
section WkOf
variable {l : Launch} {D : va_G} {cI cZ cJ : ClassId} {y : MethodName} {ws ws' : List Cond} {fr lo cs ss : Nat} {av : List Value} {W0 : va_W} {v : Int32} {cc : ByteArray} {maxL : Nat} {ret : Option FieldType} {hh : List (Nat × Nat × Nat × Nat)} {P : Int32 → Prop}
theorem rp_of (hy : plainName y.cls = true) (hw : ws = Cond.code y cc maxL ret :: ws') (hav : (lg_sl av).length ≤ maxL)
    (body : ∀ (p : Program) (e : Env) (s : State) (m : MethodId) (below : List Frame) (meth : Method) (c : Code) (ls : Array Slot), p.tables.exec = Jvm.exec → c.code = cc → meth.sig.returnType = ret → c.maxLocals = maxL → (∀ w ∈ ws, w.before av.toArray s = true) → s.vm.findClass y.cls = some m.cls → meth.locks = false → va_P D vwCl W0 s.heap → va_K D vwCl (tys9 cI cZ cJ) s → NM s → lv_has ls maxL (lv_args 0 av) →
      W p l e (rmR fr lo) s m av.toArray below meth c s.heap [] 0 0 (MQ below (vp_Si P) av.toArray s 0 0 (fun _ => False)) (F0 m 0 ls [])) : Rp l D cI cZ cJ y ws fr lo av W0 P := by
  refine Met.ofW (cc := cc) (maxL := maxL) (ret := ret) hy hw ?_
  intro p e s m args below meth c s₁ B hml hv
  obtain ⟨rfl, hP, hK, hN⟩ := hv
  have hl := lv_entry av (n := maxL) hav
  rw [lg_entry_eq]
  exact body p e s m below meth c _ B.exec B.bytes B.returns hml (atoms_spec (ws := ws) B.pre) (findClass_of_methodNamed B.named) B.notSynchronized hP hK hN hl
theorem rd_ofH (hy : plainName y.cls = true) (hw : ws = Cond.codeWith y cc maxL ret hh :: ws') (hav : (lg_sl av).length ≤ maxL)
    (body : ∀ (p : Program) (e : Env) (s : State) (m : MethodId) (below : List Frame) (meth : Method) (c : Code) (ls : Array Slot), p.tables.exec = Jvm.exec → c.code = cc → meth.sig.returnType = ret → c.maxLocals = maxL → (∀ w ∈ ws, w.before av.toArray s = true) → s.vm.findClass y.cls = some m.cls → meth.locks = false → va_P D vwCl W0 s.heap → va_K D vwCl (tys9 cI cZ cJ) s → NM s → lv_has ls maxL (lv_args 0 av) →
      W p l e (rmR fr lo) s m av.toArray below meth c s.heap [] 0 0 (MQ below (vp_Si (fun r => r = v)) av.toArray s 0 0 (fun _ => False)) (F0 m 0 ls [])) : Rd l D cI cZ cJ y ws fr lo av W0 v := by
  refine met_ofWH (cc := cc) (maxL := maxL) (ret := ret) (hh := hh) hy hw ?_
  intro p e s m args below meth c s₁ B hml ht hv
  obtain ⟨rfl, hP, hK, hN⟩ := hv
  have hl := lv_entry av (n := maxL) hav
  rw [lg_entry_eq]
  exact body p e s m below meth c _ B.exec B.bytes B.returns hml (atoms_spec (ws := ws) B.pre) (findClass_of_methodNamed B.named) B.notSynchronized hP hK hN hl
theorem mg_of {α : Type} {W1 : α → va_W} {PP : Int32 → α → Prop} {gr : α → Nat} {sz : Nat} (hy : plainName y.cls = true) (hw : ws = Cond.code y cc maxL ret :: ws') (hav : (lg_sl av).length ≤ maxL)
    (body : ∀ (p : Program) (e : Env) (s : State) (m : MethodId) (below : List Frame) (meth : Method) (c : Code) (ls : Array Slot) (A : Nat → Prop), p.tables.exec = Jvm.exec → c.code = cc → meth.sig.returnType = ret → c.maxLocals = maxL → (∀ w ∈ ws, w.before av.toArray s = true) → s.vm.findClass y.cls = some m.cls → meth.locks = false → va_P D vwCl W0 s.heap → va_K D vwCl (tys9 cI cZ cJ) s → NM s → va_D A W0 → (∀ q : Nat, s.heap.size ≤ q → A q) → va_S A s.heap s.heap [] → ZQ A s s.heap → ND s → NX s → lv_has ls maxL (lv_args 0 av) →
      W p l e (rmC fr lo cs ss) s m av.toArray below meth c s.heap [] 0 0 (MQ below (va_Qi PP (fun u t => va_P D vwCl (W1 u) t.heap ∧ s.heap.size + gr u ≤ t.heap.size) A) av.toArray s cs ss A) (F0 m 0 ls [])) : Mg l D cI cZ cJ y ws fr lo cs ss sz av W0 W1 PP gr := by
  refine Met.ofW (cc := cc) (maxL := maxL) (ret := ret) hy hw ?_
  intro p e s m args below meth c s₁ B hml hv
  obtain ⟨rfl, ⟨⟨⟨hsz, hP, hK, hN, hD0⟩, hZ⟩, hY⟩, hX⟩ := hv
  subst hsz
  have hl := lv_entry av (n := maxL) hav
  rw [lg_entry_eq]
  exact body p e s m below meth c _ _ B.exec B.bytes B.returns hml (atoms_spec (ws := ws) B.pre) (findClass_of_methodNamed B.named) B.notSynchronized hP hK hN (hD0.self (sz := s.heap.size)) (fun q h => Or.inr h) va_S.rf hZ hY hX hl
theorem mgv_of {α : Type} {W1 : α → va_W} {sz : Nat} (hy : plainName y.cls = true) (hw : ws = Cond.code y cc maxL none :: ws') (hav : (lg_sl av).length ≤ maxL)
    (body : ∀ (p : Program) (e : Env) (s : State) (m : MethodId) (below : List Frame) (meth : Method) (c : Code) (ls : Array Slot) (A : Nat → Prop), p.tables.exec = Jvm.exec → c.code = cc → meth.sig.returnType = none → c.maxLocals = maxL → (∀ w ∈ ws, w.before av.toArray s = true) → s.vm.findClass y.cls = some m.cls → meth.locks = false → va_P D vwCl W0 s.heap → va_K D vwCl (tys9 cI cZ cJ) s → NM s → va_D A W0 → (∀ q : Nat, s.heap.size ≤ q → A q) → va_S A s.heap s.heap [] → lv_has ls maxL (lv_args 0 av) →
      W p l e (rmR fr lo) s m av.toArray below meth c s.heap [] 0 0 (MQ below (va_Qv (fun (_ : α) => True) (fun u t => va_P D vwCl (W1 u) t.heap) A) av.toArray s 0 0 A) (F0 m 0 ls [])) : Mgv l D cI cZ cJ y ws fr lo sz av W0 W1 := by
  refine Met.ofW (cc := cc) (maxL := maxL) (ret := none) hy hw ?_
  intro p e s m args below meth c s₁ B hml hv
  obtain ⟨rfl, hsz, hP, hK, hN, hD0⟩ := hv
  subst hsz
  have hl := lv_entry av (n := maxL) hav
  rw [lg_entry_eq]
  exact body p e s m below meth c _ _ B.exec B.bytes B.returns hml (atoms_spec (ws := ws) B.pre) (findClass_of_methodNamed B.named) B.notSynchronized hP hK hN (hD0.self (sz := s.heap.size)) (fun q h => Or.inr h) va_S.rf hl
end WkOf
section WkRows
variable {p : Program} {l : Launch} {e : Env} {R : Room} {s : State} {m : MethodId} {args : Array Value} {below : List Frame} {meth : Method} {c : Code} {cc bytes : ByteArray} {H H0 : Heap} {locs : List Loc} {cells slots cs ss : Nat} {pc : Nat} {ls : Array Slot} {v v' : Int32} {D : va_G} {cI cZ cJ : ClassId} {ws W1 W2 Wc : va_W} {A : Nat → Prop} {own : String} {index maxL nL fr lo n : Nat} {y : MethodName} {ret : Option FieldType} {hh : List (Nat × Nat × Nat × Nat)} {wy Ts : List Cond} {As rest st0 : List Value} {Q : State → Prop} {P : Int32 → Prop} {tys : List (ClassId × FieldType)} {a j : Nat} {iv : Int32}
theorem rp_iret (hx : p.tables.exec = Jvm.exec) (hb : c.code = cc) (hr : meth.sig.returnType = some .int) (hlocks : meth.locks = false) (hp : P v') (hdg : decode cc pc = .ok (.ireturn, 1)) : W p l e R s m args below meth c s.heap [] 0 0 (MQ below (vp_Si P) args s 0 0 (fun _ => False)) (F0 m pc ls [.int v']) :=
  W.iret hx hb hr (fun t ht _ => ⟨v', rfl, hp, ht⟩) (fun q h => nomatch h) hdg hlocks
theorem rp_zret (hx : p.tables.exec = Jvm.exec) (hb : c.code = cc) (hr : meth.sig.returnType = some .boolean) (hlocks : meth.locks = false) (hp : P v') (hn : narrow .boolean (.int v') = .int v') (hdg : decode cc pc = .ok (.ireturn, 1)) : W p l e R s m args below meth c s.heap [] 0 0 (MQ below (vp_Si P) args s 0 0 (fun _ => False)) (F0 m pc ls [.int v']) :=
  W.zret hx hb hr hn (fun t ht _ => ⟨v', rfl, hp, ht⟩) (fun q h => nomatch h) hdg hlocks
theorem mg_zret {α : Type} {Wn : α → va_W} {PP : Int32 → α → Prop} {gr : α → Nat} (u : α) (hx : p.tables.exec = Jvm.exec) (hb : c.code = cc) (hr : meth.sig.returnType = some .boolean) (hlocks : meth.locks = false) (hS : va_S A s.heap H locs) (hc : cells ≤ cs) (hs : slots ≤ ss) (hp : PP v' u) (hn : narrow .boolean (.int v') = .int v') (hP : va_P D vwCl (Wn u) H) (hG : s.heap.size + gr u ≤ H.size) (hdg : decode cc pc = .ok (.ireturn, 1)) : W p l e R s m args below meth c H locs cells slots (MQ below (va_Qi PP (fun u t => va_P D vwCl (Wn u) t.heap ∧ s.heap.size + gr u ≤ t.heap.size) A) args s cs ss A) (F0 m pc ls [.int v']) :=
  W.widen (k := cs) (n := ss) hc hs (W.zret hx hb hr hn (fun t ht _ => ⟨⟨v', u, rfl, hp, by show va_P D vwCl (Wn u) t.heap ∧ s.heap.size + gr u ≤ t.heap.size; rw [ht]; exact ⟨hP, hG⟩⟩, hS.F ht⟩) hS.2.2 hdg hlocks)
theorem mgv_ret {α : Type} {Wn : α → va_W} (u : α) (hx : p.tables.exec = Jvm.exec) (hb : c.code = cc) (hr : meth.sig.returnType = none) (hlocks : meth.locks = false) (hS : va_S A s.heap H locs) (hP : va_P D vwCl (Wn u) H) (hdg : decode cc pc = .ok (.return_, 1)) : W p l e R s m args below meth c H locs 0 0 (MQ below (va_Qv (fun (_ : α) => True) (fun u t => va_P D vwCl (Wn u) t.heap) A) args s 0 0 A) (F0 m pc ls []) :=
  W.vret hx hb hr (fun t ht _ => ⟨⟨u, rfl, trivial, by show va_P D vwCl (Wn u) t.heap; rw [ht]; exact hP⟩, hS.F ht⟩) hS.2.2 hdg hlocks
theorem rp_call {a : Array Value} (hr : va_Run p l e R s m args below meth c H locs cells slots 0 0 (F0 m pc ls st0) rest (vp_Si P a) (fun _ => False))
    (kk : ∀ v : Int32, P v → W p l e R s m args below meth c H locs cells slots Q (F0 m (pc + 3) ls (.int v :: rest))) : W p l e R s m args below meth c H locs cells slots Q (F0 m pc ls st0) := by
  intro T hT X
  obtain ⟨v1, st₀, t, T', L, h0, X', hL, e1, -, ⟨r, hv, hp, hh⟩, st⟩ := hr T hT X
  cases hv
  obtain ⟨t2, a1, b1⟩ := kk r hp T' (by rw [e1, hh, h0]) (Stand.forget X' (fun q h => (hL q h).elim))
  exact ⟨t2, st t2 a1, b1⟩
theorem rp_S (S : CallFix p m c cc nL s args Ts own) (hM : Rp l D cI cZ cJ y wy fr lo As Wc P) (cw : CallB R s args own index y bytes maxL ret wy (rmR fr lo) 0 0 n ∧ (Cond.static y).before args s = true)
    (hP : va_P D vwCl Wc H) (hK : va_K D vwCl (tys9 cI cZ cJ) s) (hN : NM s) (hn : As.length = n) (hsize : ls.size = nL) (hst : st0 = As.reverse ++ rest) (hW : (rest.map fun v => v.category).sum ≤ 8) (hdg : decode cc pc = .ok (.invokestatic index, 3)) (hf : cells ≤ R.cells ∧ slots ≤ R.slots)
    (kk : ∀ v : Int32, P v → W p l e R s m args below meth c H locs cells slots Q (F0 m (pc + 3) ls (.int v :: rest))) : W p l e R s m args below meth c H locs cells slots Q (F0 m pc ls st0) :=
  rp_call (va_runS (As := As) (rest := rest) S hM cw (rb_in hP hK hN As) rfl hn hsize hst (lv_room hW) hdg hf) kk
theorem rd_SW (S : CallFix p m c cc nL s args Ts own) (hM : Rd l D cI cZ cJ y wy fr lo As Wc v) (cw : vx_CSW R s args own index y bytes maxL ret hh wy (rmR fr lo) 0 0 n)
    (hP : va_P D vwCl Wc H) (hK : va_K D vwCl (tys9 cI cZ cJ) s) (hN : NM s) (hn : As.length = n) (hsize : ls.size = nL) (hst : st0 = As.reverse ++ rest) (hW : (rest.map fun v => v.category).sum ≤ 8) (hdg : decode cc pc = .ok (.invokestatic index, 3)) (hf : cells ≤ R.cells ∧ slots ≤ R.slots)
    (kk : W p l e R s m args below meth c H locs cells slots Q (F0 m (pc + 3) ls (.int v :: rest))) : W p l e R s m args below meth c H locs cells slots Q (F0 m pc ls st0) :=
  rs_call (vx_runSW (As := As) (rest := rest) S hM cw (rb_in hP hK hN As) rfl hn hsize hst (lv_room hW) hdg hf) kk
theorem mi_SW (S : CallFix p m c cc nL s args Ts own) (hM : Mi l D cI cZ cJ y wy fr lo H.size As Wc W1 v) (cw : vx_CSW R s args own index y bytes maxL ret hh wy (rmR fr lo) 0 0 n)
    (hP : va_P D vwCl ws H) (hD : va_D A ws) (hK : va_K D vwCl (tys9 cI cZ cJ) s) (hN : NM s) (hS : va_S A s.heap H locs) (hA : ∀ q : Nat, s.heap.size ≤ q → A q) (hn : As.length = n) (hsize : ls.size = nL) (hst : st0 = As.reverse ++ rest) (hW : (rest.map fun v => v.category).sum ≤ 8) (hdg : decode cc pc = .ok (.invokestatic index, 3)) (hf : cells ≤ R.cells ∧ slots ≤ R.slots)
    (isC isR : List Nat) (hnd : va_nd isC = true) (hC : isC.map (fun i => ws[i]?) = Wc.map some) (h1 : isC.map (fun i => W2[i]?) = W1.map some) (hR : ∀ i ∈ isR, W2[i]? = ws[i]?) (hfst : W2.map (fun q => q.1) = ws.map (fun q => q.1)) (k : Nat) (hlen : W2.length = k) (hall : ∀ i, i < k → i ∈ isC ∨ i ∈ isR) (hdis : ∀ i ∈ isR, i ∉ isC)
    (kk : ∀ (H : Heap) (locs : List Loc), va_P D vwCl W2 H → va_D A W2 → va_S A s.heap H locs → W p l e R s m args below meth c H locs cells slots Q (F0 m (pc + 3) ls (.int v :: rest))) : W p l e R s m args below meth c H locs cells slots Q (F0 m pc ls st0) := by
  have hPc : va_P D vwCl Wc H := wd_cut hP isC hC
  have hDc : va_D A Wc := hD.sub isC hnd hC
  exact mi_call (vx_runSW (As := As) (rest := rest) S hM cw (mb_in hPc hK hN hDc As) rfl hn hsize hst (lv_room hW) hdg hf) hP hD hS hA isC isR hC h1 hR hfst k hlen hall hdis kk
theorem mx_SW (S : CallFix p m c cc nL s args Ts own) (hM : Mx l D cI cZ cJ y wy fr lo H.size As Wc v) (cw : vx_CSW R s args own index y bytes maxL ret hh wy (rmX fr lo) 1 6 n)
    (hP : va_P D vwCl ws H) (hD : va_D A ws) (hK : va_K D vwCl (tys9 cI cZ cJ) s) (hN : NM s) (hY : ND s) (hX : NX s) (hS : va_S A s.heap H locs) (hA : ∀ q : Nat, s.heap.size ≤ q → A q) (hZ : ZQ A s s.heap) (hn : As.length = n) (hsize : ls.size = nL) (hst : st0 = As.reverse ++ rest) (hW : (rest.map fun v => v.category).sum ≤ 8) (hdg : decode cc pc = .ok (.invokestatic index, 3)) (hf : cells + 1 ≤ R.cells ∧ slots + 6 ≤ R.slots)
    (isC isR : List Nat) (hnd : va_nd isC = true) (hC : isC.map (fun i => ws[i]?) = Wc.map some) (k : Nat) (hlen : ws.length = k) (hall : ∀ i, i < k → i ∈ isC ∨ i ∈ isR) (hdis : ∀ i ∈ isR, i ∉ isC)
    (kk : ∀ (H1 : Heap) (locs : List Loc), va_P D vwCl ws H1 → va_D A ws → va_S A s.heap H1 locs → H.size + 1 ≤ H1.size → W p l e R s m args below meth c H1 locs (cells + 1) (slots + 6) Q (F0 m (pc + 3) ls (.int v :: rest))) : W p l e R s m args below meth c H locs cells slots Q (F0 m pc ls st0) := by
  have hPc : va_P D vwCl Wc H := wd_cut hP isC hC
  have hDc : va_D A Wc := hD.sub isC hnd hC
  have hFc := va_free hD hS hA isC hC
  have hb9 := xb_in hPc hK hN hDc (hZ.S hS) hFc As
  refine va_calli (vx_runSW (As := As) (rest := rest) S hM cw ⟨XL.blind, fun U hU hW9 => ⟨(hb9.2 U hU hW9).1, ⟨(hb9.2 U hU hW9).2, ND.warm hW9 hY⟩, NX.moved hW9.alike hX⟩⟩ rfl hn hsize hst (lv_room hW) hdg hf) hS (fun q _ h => hFc q h) hFc (fun r u t H1 locs1 ht hvm hw hB hz1 hk1 hS1 => ?_)
  subst hw
  have hB2 : va_P D vwCl Wc t.heap ∧ H.size + 1 ≤ t.heap.size := hB
  rw [ht] at hB2
  obtain ⟨hP2, hD2⟩ := wd_back hP hD isC isR hC hC (fun _ _ => rfl) rfl (by rw [hlen]; exact hall) hdis hk1 hB2.1
  exact kk H1 locs1 hP2 hD2 hS1 hB2.2
theorem mg_S {α : Type} {Wn : α → va_W} {PP : Int32 → α → Prop} {gr : α → Nat} (S : CallFix p m c cc nL s args Ts own) (hM : Mg l D cI cZ cJ y wy fr lo cs ss H.size As Wc Wn PP gr) (cw : CallB R s args own index y bytes maxL ret wy (rmC fr lo cs ss) cs ss n ∧ (Cond.static y).before args s = true)
    (hP : va_P D vwCl ws H) (hD : va_D A ws) (hK : va_K D vwCl (tys9 cI cZ cJ) s) (hN : NM s) (hY : ND s) (hX : NX s) (hS : va_S A s.heap H locs) (hA : ∀ q : Nat, s.heap.size ≤ q → A q) (hZ : ZQ A s s.heap) (hn : As.length = n) (hsize : ls.size = nL) (hst : st0 = As.reverse ++ rest) (hW : (rest.map fun v => v.category).sum ≤ 8) (hdg : decode cc pc = .ok (.invokestatic index, 3)) (hf : cells + cs ≤ R.cells ∧ slots + ss ≤ R.slots)
    (isC isR : List Nat) (hnd : va_nd isC = true) (hC : isC.map (fun i => ws[i]?) = Wc.map some) (Wf : α → va_W) (h1 : ∀ u, isC.map (fun i => (Wf u)[i]?) = (Wn u).map some) (hR : ∀ u, ∀ i ∈ isR, (Wf u)[i]? = ws[i]?) (hfst : ∀ u, (Wf u).map (fun q => q.1) = ws.map (fun q => q.1)) (k : Nat) (hlen : ∀ u, (Wf u).length = k) (hall : ∀ i, i < k → i ∈ isC ∨ i ∈ isR) (hdis : ∀ i ∈ isR, i ∉ isC)
    (kk : ∀ (r : Int32) (u : α) (H1 : Heap) (locs : List Loc), PP r u → va_P D vwCl (Wf u) H1 → va_D A (Wf u) → va_S A s.heap H1 locs → H.size + gr u ≤ H1.size → W p l e R s m args below meth c H1 locs (cells + cs) (slots + ss) Q (F0 m (pc + 3) ls (.int r :: rest))) : W p l e R s m args below meth c H locs cells slots Q (F0 m pc ls st0) := by
  have hPc : va_P D vwCl Wc H := wd_cut hP isC hC
  have hDc : va_D A Wc := hD.sub isC hnd hC
  have hFc := va_free hD hS hA isC hC
  have hb9 := xb_in hPc hK hN hDc (hZ.S hS) hFc As
  refine va_calli (va_runS (As := As) (rest := rest) S hM cw ⟨XL.blind, fun U hU hW9 => ⟨(hb9.2 U hU hW9).1, ⟨(hb9.2 U hU hW9).2, ND.warm hW9 hY⟩, NX.moved hW9.alike hX⟩⟩ rfl hn hsize hst (lv_room hW) hdg hf) hS (fun q _ h => hFc q h) hFc (fun r u t H1 locs1 ht hvm hw hB hz1 hk1 hS1 => ?_)
  have hB2 : va_P D vwCl (Wn u) t.heap ∧ H.size + gr u ≤ t.heap.size := hB
  rw [ht] at hB2
  obtain ⟨hP2, hD2⟩ := wd_back hP hD isC isR hC (h1 u) (hR u) (hfst u) (by rw [hlen]; exact hall) hdis hk1 hB2.1
  exact kk r u H1 locs1 hw hP2 hD2 hS1 hB2.2
theorem mgv_S {α : Type} {Wn : α → va_W} (S : CallFix p m c cc nL s args Ts own) (hM : Mgv l D cI cZ cJ y wy fr lo H.size As Wc Wn) (cw : CallB R s args own index y bytes maxL ret wy (rmR fr lo) 0 0 n ∧ (Cond.static y).before args s = true)
    (hP : va_P D vwCl ws H) (hD : va_D A ws) (hK : va_K D vwCl (tys9 cI cZ cJ) s) (hN : NM s) (hS : va_S A s.heap H locs) (hA : ∀ q : Nat, s.heap.size ≤ q → A q) (hn : As.length = n) (hsize : ls.size = nL) (hst : st0 = As.reverse ++ rest) (hW : (rest.map fun v => v.category).sum ≤ 8) (hdg : decode cc pc = .ok (.invokestatic index, 3)) (hf : cells ≤ R.cells ∧ slots ≤ R.slots)
    (isC isR : List Nat) (hnd : va_nd isC = true) (hC : isC.map (fun i => ws[i]?) = Wc.map some) (Wf : α → va_W) (h1 : ∀ u, isC.map (fun i => (Wf u)[i]?) = (Wn u).map some) (hR : ∀ u, ∀ i ∈ isR, (Wf u)[i]? = ws[i]?) (hfst : ∀ u, (Wf u).map (fun q => q.1) = ws.map (fun q => q.1)) (k : Nat) (hlen : ∀ u, (Wf u).length = k) (hall : ∀ i, i < k → i ∈ isC ∨ i ∈ isR) (hdis : ∀ i ∈ isR, i ∉ isC)
    (kk : ∀ (u : α) (H1 : Heap) (locs : List Loc), va_P D vwCl (Wf u) H1 → va_D A (Wf u) → va_S A s.heap H1 locs → H.size ≤ H1.size → W p l e R s m args below meth c H1 locs cells slots Q (F0 m (pc + 3) ls rest)) : W p l e R s m args below meth c H locs cells slots Q (F0 m pc ls st0) := by
  have hPc : va_P D vwCl Wc H := wd_cut hP isC hC
  have hDc : va_D A Wc := hD.sub isC hnd hC
  have hFc := va_free hD hS hA isC hC
  have hb9 := mb_in hPc hK hN hDc As
  refine va_callv (va_runS (As := As) (rest := rest) S hM cw hb9 rfl hn hsize hst (lv_room hW) hdg hf) hS (fun q _ h => hFc q h) hFc (fun u t H1 locs1 ht hvm hw hB hz1 hk1 hS1 => ?_)
  have hB2 : va_P D vwCl (Wn u) t.heap := hB
  rw [ht] at hB2
  obtain ⟨hP2, hD2⟩ := wd_back hP hD isC isR hC (h1 u) (hR u) (hfst u) (by rw [hlen]; exact hall) hdis hk1 hB2
  exact kk u H1 locs1 hP2 hD2 hS1 hz1
theorem k_iald (hx : p.tables.exec = Jvm.exec) (hb : c.code = cc) (hK : va_K D vwCl tys s) (hP : va_P D vwCl ws H) (q0 t0 : Nat) {cA : ClassId} {f : Nat → Int32} (ha : ws[q0]? = some (a, .inl (cA, n, .inl f))) (ht : tys[t0]? = some (cA, .int)) (hi : iv = nI j) (hj : j < n) (hn : n ≤ 65536) (hv : f j = v) (hdg : decode cc pc = .ok (.iaload, 1))
    (kk : W p l e R s m args below meth c H locs cells slots Q (F0 m (pc + 1) ls (.int v :: rest))) : W p l e R s m args below meth c H locs cells slots Q (F0 m pc ls (.int iv :: .ref a :: rest)) := by
  subst hi
  exact q_iald hx hb hK hP q0 t0 ha ht hj hn hv hdg kk
theorem k_iast (hx : p.tables.exec = Jvm.exec) (hb : c.code = cc) (hK : va_K D vwCl tys s) (hP : va_P D vwCl ws H) (hD : va_D A ws) (hS : va_S A H0 H locs) (q0 t0 : Nat) {cA : ClassId} {f : Nat → Int32} (ha : ws[q0]? = some (a, .inl (cA, n, .inl f))) (ht : tys[t0]? = some (cA, .int)) (hi : iv = nI j) (hj : j < n) (hn : n ≤ 65536) (hdg : decode cc pc = .ok (.iastore, 1))
    (kk : ∀ (H1 : Heap) (locs1 : List Loc), va_P D vwCl (ws.set q0 (a, .inl (cA, n, .inl (upd f j v)))) H1 → va_D A (ws.set q0 (a, .inl (cA, n, .inl (upd f j v)))) → va_S A H0 H1 locs1 → W p l e R s m args below meth c H1 locs1 cells slots Q (F0 m (pc + 1) ls rest)) : W p l e R s m args below meth c H locs cells slots Q (F0 m pc ls (.int v :: .int iv :: .ref a :: rest)) := by
  subst hi
  exact q_iast hx hb hK hP hD hS q0 t0 ha ht hj hn hdg kk
/-- a computed number has a shorter name -/
theorem k_top {x : Int32} (y : Int32) (h : x = y) (k : W p l e R s m args below meth c H locs cells slots Q (F0 m pc ls (.int y :: rest))) : W p l e R s m args below meth c H locs cells slots Q (F0 m pc ls (.int x :: rest)) := by
  rw [h]
  exact k
theorem loop_RX {α : Type} {nL h : Nat} (N : Nat) (lv : Nat → α → List (Nat × Value)) (I : Nat → α → Prop)
    (step : ∀ (i : Nat) (x : α), i ≤ N → I i x → (∀ x' : α, i < N → I (i + 1) x' → ∀ ls : Array Slot, lv_has ls nL (lv (i + 1) x') → W p l e R s m args below meth c H locs cells slots Q (F0 m h ls [])) → ∀ ls : Array Slot, lv_has ls nL (lv i x) → W p l e R s m args below meth c H locs cells slots Q (F0 m h ls [])) :
    ∀ (i : Nat) (x : α), i ≤ N → I i x → ∀ ls : Array Slot, lv_has ls nL (lv i x) → W p l e R s m args below meth c H locs cells slots Q (F0 m h ls []) := by
  have key : ∀ (k i : Nat) (x : α), i + k = N → I i x → ∀ ls : Array Slot, lv_has ls nL (lv i x) → W p l e R s m args below meth c H locs cells slots Q (F0 m h ls []) := by
    intro k
    induction k with
    | zero => intro i x hi hI; exact step i x (by omega) hI (fun _ h9 _ => absurd h9 (by omega))
    | succ k ih => intro i x hi hI; exact step i x (by omega) hI (fun x' _ hI1 => ih (i + 1) x' (by omega) hI1)
  intro i x hi hI
  exact key (N - i) i x (by omega) hI
theorem loop_WX {α : Type} {nL h : Nat} (N : Nat) (lv : Nat → α → List (Nat × Value)) (wd : Nat → α → va_W) (I : Nat → α → Prop)
    (step : ∀ (i : Nat) (x : α), i ≤ N → I i x → (∀ x' : α, i < N → I (i + 1) x' → ∀ (H : Heap) (locs : List Loc) (ls : Array Slot), va_P D vwCl (wd (i + 1) x') H → va_D A (wd (i + 1) x') → va_S A s.heap H locs → lv_has ls nL (lv (i + 1) x') → W p l e R s m args below meth c H locs cells slots Q (F0 m h ls [])) → ∀ (H : Heap) (locs : List Loc) (ls : Array Slot), va_P D vwCl (wd i x) H → va_D A (wd i x) → va_S A s.heap H locs → lv_has ls nL (lv i x) → W p l e R s m args below meth c H locs cells slots Q (F0 m h ls [])) :
    ∀ (i : Nat) (x : α), i ≤ N → I i x → ∀ (H : Heap) (locs : List Loc) (ls : Array Slot), va_P D vwCl (wd i x) H → va_D A (wd i x) → va_S A s.heap H locs → lv_has ls nL (lv i x) → W p l e R s m args below meth c H locs cells slots Q (F0 m h ls []) := by
  have key : ∀ (k i : Nat) (x : α), i + k = N → I i x → ∀ (H : Heap) (locs : List Loc) (ls : Array Slot), va_P D vwCl (wd i x) H → va_D A (wd i x) → va_S A s.heap H locs → lv_has ls nL (lv i x) → W p l e R s m args below meth c H locs cells slots Q (F0 m h ls []) := by
    intro k
    induction k with
    | zero => intro i x hi hI; exact step i x (by omega) hI (fun _ h9 _ => absurd h9 (by omega))
    | succ k ih => intro i x hi hI; exact step i x (by omega) hI (fun x' _ hI1 => ih (i + 1) x' (by omega) hI1)
  intro i x hi hI
  exact key (N - i) i x (by omega) hI
theorem k_join {α : Type} {g : JFrame} {nL h : Nat} (lv : α → List (Nat × Value)) (st : α → List Value) (I : α → Prop) (J : ∀ x, I x → ∀ ls : Array Slot, lv_has ls nL (lv x) → W p l e R s m args below meth c H locs cells slots Q (F0 m h ls (st x)))
    (kk : (∀ x, I x → ∀ ls : Array Slot, lv_has ls nL (lv x) → W p l e R s m args below meth c H locs cells slots Q (F0 m h ls (st x))) → W p l e R s m args below meth c H locs cells slots Q g) : W p l e R s m args below meth c H locs cells slots Q g := kk J
theorem loop_ME {α : Type} {nL h : Nat} (μ : α → Nat) (lv : α → List (Nat × Value))
    (step : ∀ x : α, (∀ x' : α, μ x' < μ x → ∀ ls : Array Slot, lv_has ls nL (lv x') → W p l e R s m args below meth c H locs cells slots Q (F0 m h ls [])) → ∀ ls : Array Slot, lv_has ls nL (lv x) → W p l e R s m args below meth c H locs cells slots Q (F0 m h ls [])) :
    ∀ (x : α) (ls : Array Slot), lv_has ls nL (lv x) → W p l e R s m args below meth c H locs cells slots Q (F0 m h ls []) := by
  have key : ∀ (k : Nat) (x : α), μ x < k → ∀ ls : Array Slot, lv_has ls nL (lv x) → W p l e R s m args below meth c H locs cells slots Q (F0 m h ls []) := by
    intro k
    induction k with
    | zero => intro x hx; exact absurd hx (by omega)
    | succ k ih => intro x hx; exact step x (fun x' h9 => ih x' (by omega))
  intro x
  exact key (μ x + 1) x (by omega)
end WkRows
theorem k_lt {N i : Nat} {x : Int32} (hx : x = nI N) (hN : N ≤ 65536) (hi : i ≤ N) (h : ¬ x ≤ nI i) : i < N := by
  subst hx
  rcases Nat.lt_or_ge i N with h1 | h1
  · exact h1
  · exact absurd (nI_le h1 (by omega)) h
theorem ixA {k p : Nat} (h1 : k < 4) (h2 : p < 4) : ((8 : Int32) + (8 : Int32) * nI k) + nI p = nI (8 + 8 * k + p) := by
  have h : ∀ k p : Fin 4, ((8 : Int32) + (8 : Int32) * nI k.val) + nI p.val = nI (8 + 8 * k.val + p.val) := by decide +kernel
  exact h ⟨k, h1⟩ ⟨p, h2⟩
theorem ixB {p : Nat} (h2 : p < 4) : (16 : Int32) + nI p = nI (16 + p) := nI_add 16 p
def xSh (x : Int32) : Int32 := (x.toUInt32 >>> ((1 : Int32).toUInt32 &&& Int32.toUInt32 31)).toInt32
def xLow (x n : Int32) : Int32 := xSh x - xSh x / n * n
def lHas (s p : Int32) : Bool := if p < 0 then false else decide ((s >>> (p &&& 31)) &&& 1 = 1)
theorem lHas_n {s p : Int32} (h : p < 0) : lHas s p = false := if_pos h
theorem lHas_t {s p : Int32} (h : ¬ p < 0) (h1 : (s >>> (p &&& 31)) &&& 1 = 1) : lHas s p = true := by
  unfold lHas
  rw [if_neg h]
  exact decide_eq_true h1
theorem lHas_f {s p : Int32} (h : ¬ p < 0) (h1 : ¬ (s >>> (p &&& 31)) &&& 1 = 1) : lHas s p = false := by
  unfold lHas
  rw [if_neg h]
  exact decide_eq_false h1
theorem many_dn {x : Int32} (h : ¬ x = 0) : (x &&& (x - 1)).toBitVec.toNat < x.toBitVec.toNat := by
  have h0 : x.toBitVec.toNat ≠ 0 := fun z => h (Int32.toBitVec_inj.mp (BitVec.eq_of_toNat_eq z))
  have h1 : (x - 1).toBitVec.toNat = x.toBitVec.toNat - 1 := by
    rw [Int32.toBitVec_sub, BitVec.toNat_sub]
    have h2 := x.toBitVec.isLt
    show (2 ^ 32 - 1 + x.toBitVec.toNat) % 2 ^ 32 = _
    omega
  rw [Int32.toBitVec_and, BitVec.toNat_and]
  exact Nat.lt_of_le_of_lt Nat.and_le_right (by omega)
