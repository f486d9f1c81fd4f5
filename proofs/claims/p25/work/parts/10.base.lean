/-! the base: what all contracts here share. Kinds of contracts: Rd (reads, answers an int), Rv (reads, answers nothing), Mi, Mv (change the world), Tx (throws, the world as it was) -/
def bI (b : Bool) : Int32 := if b = true then 1 else 0
theorem bI_t : bI true = 1 := rfl
theorem bI_f : bI false = 0 := rfl
theorem bI_0 {b : Bool} (h : bI b = 0) : b = false := by
  cases b
  · rfl
  · exact absurd h (by decide)
theorem bI_1 {b : Bool} (h : ¬ bI b = 0) : b = true := by
  cases b
  · exact absurd rfl h
  · rfl
theorem bI_nar (b : Bool) : narrow .boolean (.int (bI b)) = .int (bI b) := by cases b <;> rfl
theorem bI_vnar (b : Bool) : vp_nar .boolean (bI b) = bI b := by cases b <;> rfl
abbrev tys9 (cI _cZ _cJ : ClassId) : List (ClassId × FieldType) := [(cI, .int)]
/-- the links to private members of a nest mate -/
def nlL : List (String × Nat × MethodName) := [(RX1, 11, yX0_init), (RX1, 82, yX0_open), (RX0, 25, yX1_witchesOf), (RX0, 34, yX1_everyone), (RX0, 41, yX1_isHonestIn), (RX0, 45, yX1_worldOf), (RX1, 89, yX0_count), (RX1, 197, yX0_allowsClaim), (RX0, 48, yX1_setOf), (RX1, 206, yX0_keepClaim), (RX1, 150, yX0_countWithRole), (RX0, 59, yX1_roleBits), (RX0, 62, yX1_bitOfRole), (RX1, 153, yX0_witchesInAll), (RX1, 156, yX0_witchesInAny), (RX1, 159, yX0_countWitchSets), (RX1, 167, yX0_contains)]
/-- the texts of the exceptions -/
def nlS : List (Nat × String) := [(42, "these roles cannot be dealt"), (99, "there is no such kind of claim"), (109, "the set has a player who does not exist"), (118, "the dead neither vote nor are voted for"), (133, "the guard cannot protect this player"), (138, "the witches cannot attack this player"), (140, "the seer cannot look at this player"), (148, "there is no such role"), (173, "there is no game"), (176, "it is not the time for this"), (178, "who would have to do this is dead"), (182, "there is no such player"), (203, "this player cannot claim this now")]
def nlC : List String := ["java/lang/IllegalStateException", "java/lang/IndexOutOfBoundsException", "java/lang/IllegalArgumentException", "java/util/NoSuchElementException"]
/-- the words that no list of a method holds: they speak of the classes alone -/
def NM (U : State) : Prop := (∀ q ∈ nlL, va_Nw (.methodLinkNest q.1 q.2.1 q.2.2 RX1) U) ∧ (∀ q ∈ nlS, ∃ sa : Nat, vk_R RX1 q.1 q.2 sa U) ∧ ∀ x ∈ nlC, va_Nw (.castable x x) U
theorem NM.same {u U : State} (h : u.vm = U.vm) (k : NM u) : NM U :=
  ⟨fun q hq => va_Nw.same rfl h (k.1 q hq), fun q hq => by obtain ⟨sa, h1⟩ := k.2.1 q hq; exact ⟨sa, vk_R.same h.symm h1⟩, fun x hx => va_Nw.same rfl h (k.2.2 x hx)⟩
theorem NM.warm {s U : State} (hW : s.WarmedH U.vm) (k : NM s) : NM U :=
  ⟨fun q hq => va_Nw.warmM hW (k.1 q hq), fun q hq => by obtain ⟨sa, h1⟩ := k.2.1 q hq; exact ⟨sa, vk_R.warm hW h1⟩, fun x hx => va_Nw.warmC hW (k.2.2 x hx)⟩
theorem NM.link {s : State} (k : NM s) (i : Nat) {q : String × Nat × MethodName} (h : nlL[i]? = some q) : va_Nw (.methodLinkNest q.1 q.2.1 q.2.2 RX1) s := k.1 q (List.mem_of_getElem? h)
/-- the static fields of Throwable that a throw reads -/
def ZQ (A : Nat → Prop) (U : State) (H : Heap) : Prop := vx_Zq Bundle.tN "UNASSIGNED_STACK" Bundle.steD A U H ∧ vx_Zq Bundle.tN "SUPPRESSED_SENTINEL" Bundle.listD A U H
theorem ZQ.moved {A : Nat → Prop} {u U : State} {H : Heap} (hvm : u.vm.Alike U.vm) (h : ZQ A u H) : ZQ A U H := ⟨vx_Zq.moved hvm h.1, vx_Zq.moved hvm h.2⟩
theorem ZQ.kept {A : Nat → Prop} {U : State} {H H1 : Heap} (h : ZQ A U H) (hq : ∀ a : Nat, a < H.size → ¬ A a → H1[a]? = H[a]?) : ZQ A U H1 := ⟨vx_Zq.kept h.1 hq, vx_Zq.kept h.2 hq⟩
theorem ZQ.narrow {A B : Nat → Prop} {U : State} {H : Heap} (h : ZQ A U H) (hAB : ∀ q, B q → A q) : ZQ B U H := ⟨vx_Zq.narrow h.1 hAB, vx_Zq.narrow h.2 hAB⟩
theorem ZQ.S {A : Nat → Prop} {s : State} {H : Heap} {locs : List Loc} (h : ZQ A s s.heap) (hS : va_S A s.heap H locs) : ZQ A s H := h.kept hS.2.1
abbrev rmR (fr lo : Nat) : Room := { frames := fr, cells := 0, slots := 0, locals := lo }
abbrev rmX (fr lo : Nat) : Room := { frames := fr, cells := 1, slots := 6, locals := lo }
def RB (D : va_G) (cI cZ cJ : ClassId) (W0 : va_W) (U : State) : Prop := va_P D vwCl W0 U.heap ∧ va_K D vwCl (tys9 cI cZ cJ) U ∧ NM U
def MB (D : va_G) (cI cZ cJ : ClassId) (W0 : va_W) (sz : Nat) (U : State) : Prop := U.heap.size = sz ∧ va_P D vwCl W0 U.heap ∧ va_K D vwCl (tys9 cI cZ cJ) U ∧ NM U ∧ va_D (fun _ => True) W0
def XB (D : va_G) (cI cZ cJ : ClassId) (W0 : va_W) (sz : Nat) (U : State) : Prop := MB D cI cZ cJ W0 sz U ∧ ZQ (va_A W0 sz) U U.heap
theorem RB.blind {D : va_G} {cI cZ cJ : ClassId} {W0 : va_W} {av : List Value} : FrameBlind (va_Pc av (RB D cI cZ cJ W0)) := fun a U g mk q => ⟨q.1, q.2.1, va_K.moved (u := U) (U := U.calling g mk a) (Vm.Alike.refl U.vm) q.2.2.1, NM.same (u := U) rfl q.2.2.2⟩
theorem MB.blind {D : va_G} {cI cZ cJ : ClassId} {W0 : va_W} {sz : Nat} {av : List Value} : FrameBlind (va_Pc av (MB D cI cZ cJ W0 sz)) := fun a U g mk q => ⟨q.1, q.2.1, q.2.2.1, va_K.moved (u := U) (U := U.calling g mk a) (Vm.Alike.refl U.vm) q.2.2.2.1, NM.same (u := U) rfl q.2.2.2.2.1, q.2.2.2.2.2⟩
theorem XB.blind {D : va_G} {cI cZ cJ : ClassId} {W0 : va_W} {sz : Nat} {av : List Value} : FrameBlind (va_Pc av (XB D cI cZ cJ W0 sz)) := fun a U g mk q => ⟨q.1, ⟨q.2.1.1, q.2.1.2.1, va_K.moved (u := U) (U := U.calling g mk a) (Vm.Alike.refl U.vm) q.2.1.2.2.1, NM.same (u := U) rfl q.2.1.2.2.2.1, q.2.1.2.2.2.2⟩, ZQ.moved (u := U) (U := U.calling g mk a) (Vm.Alike.refl U.vm) q.2.2⟩
def QcV : Array Value → State → Outcome → State → Prop := fun _ st o t => o = .returned none ∧ t.heap = st.heap
/-- reads its world, answers v -/
def Rd (l : Launch) (D : va_G) (cI cZ cJ : ClassId) (y : MethodName) (ws : List Cond) (fr lo : Nat) (av : List Value) (W0 : va_W) (v : Int32) : Prop := Met l y ws (rmR fr lo) (va_Pc av (RB D cI cZ cJ W0)) (vp_Si (fun r => r = v)) 0 0 (fun _ => False)
/-- reads its world, answers nothing -/
def Rv (l : Launch) (D : va_G) (cI cZ cJ : ClassId) (y : MethodName) (ws : List Cond) (fr lo : Nat) (av : List Value) (W0 : va_W) : Prop := Met l y ws (rmR fr lo) (va_Pc av (RB D cI cZ cJ W0)) QcV 0 0 (fun _ => False)
/-- makes W1 of the world W0, answers v -/
def Mi (l : Launch) (D : va_G) (cI cZ cJ : ClassId) (y : MethodName) (ws : List Cond) (fr lo sz : Nat) (av : List Value) (W0 W1 : va_W) (v : Int32) : Prop := Met l y ws (rmR fr lo) (va_Pc av (MB D cI cZ cJ W0 sz)) (va_Qi (fun r (_ : Unit) => r = v) (fun _ t => va_P D vwCl W1 t.heap) (va_A W0 sz)) 0 0 (va_A W0 sz)
/-- makes W1 of the world W0, answers nothing -/
def Mv (l : Launch) (D : va_G) (cI cZ cJ : ClassId) (y : MethodName) (ws : List Cond) (fr lo sz : Nat) (av : List Value) (W0 W1 : va_W) : Prop := Met l y ws (rmR fr lo) (va_Pc av (MB D cI cZ cJ W0 sz)) (va_Qv (fun (_ : Unit) => True) (fun _ t => va_P D vwCl W1 t.heap) (va_A W0 sz)) 0 0 (va_A W0 sz)
def xnm (k : Int32) : String := if k = 1 then "java/lang/IllegalStateException" else if k = 2 then "java/lang/IndexOutOfBoundsException" else if k = 3 then "java/lang/IllegalArgumentException" else "java/util/NoSuchElementException"
/-- throws the exception xnm k, its world as it was -/
def Tx (l : Launch) (D : va_G) (cI cZ cJ : ClassId) (y : MethodName) (ws : List Cond) (fr lo sz : Nat) (av : List Value) (W0 : va_W) (k : Int32) : Prop := vx_Met l y ws (rmX fr lo) (va_Pc av (XB D cI cZ cJ W0 sz)) (fun _ _ _ _ => False) (vx_X (fun (_ : Unit) => True) (fun E _ t => E = xnm k ∧ va_P D vwCl W0 t.heap) (va_A W0 sz)) 1 6 (va_A W0 sz)

section BaseOf
variable {l : Launch} {D : va_G} {cI cZ cJ : ClassId} {y : MethodName} {ws ws' : List Cond} {fr lo : Nat} {av : List Value} {W0 W1 : va_W} {v : Int32} {cc : ByteArray} {maxL : Nat} {ret : Option FieldType}
theorem rd_of (hy : plainName y.cls = true) (hw : ws = Cond.code y cc maxL ret :: ws') (hav : (lg_sl av).length ≤ maxL)
    (body : ∀ (p : Program) (e : Env) (s : State) (m : MethodId) (below : List Frame) (meth : Method) (c : Code) (ls : Array Slot), p.tables.exec = Jvm.exec → c.code = cc → meth.sig.returnType = ret → c.maxLocals = maxL → (∀ w ∈ ws, w.before av.toArray s = true) → s.vm.findClass y.cls = some m.cls → meth.locks = false → va_P D vwCl W0 s.heap → va_K D vwCl (tys9 cI cZ cJ) s → NM s → lv_has ls maxL (lv_args 0 av) →
      W p l e (rmR fr lo) s m av.toArray below meth c s.heap [] 0 0 (MQ below (vp_Si (fun r => r = v)) av.toArray s 0 0 (fun _ => False)) (F0 m 0 ls [])) : Rd l D cI cZ cJ y ws fr lo av W0 v := by
  refine Met.ofW (cc := cc) (maxL := maxL) (ret := ret) hy hw ?_
  intro p e s m args below meth c s₁ B hml hv
  obtain ⟨rfl, hP, hK, hN⟩ := hv
  have hl := lv_entry av (n := maxL) hav
  rw [lg_entry_eq]
  exact body p e s m below meth c _ B.exec B.bytes B.returns hml (atoms_spec (ws := ws) B.pre) (findClass_of_methodNamed B.named) B.notSynchronized hP hK hN hl
theorem rv_of (hy : plainName y.cls = true) (hw : ws = Cond.code y cc maxL none :: ws') (hav : (lg_sl av).length ≤ maxL)
    (body : ∀ (p : Program) (e : Env) (s : State) (m : MethodId) (below : List Frame) (meth : Method) (c : Code) (ls : Array Slot), p.tables.exec = Jvm.exec → c.code = cc → meth.sig.returnType = none → c.maxLocals = maxL → (∀ w ∈ ws, w.before av.toArray s = true) → s.vm.findClass y.cls = some m.cls → meth.locks = false → va_P D vwCl W0 s.heap → va_K D vwCl (tys9 cI cZ cJ) s → NM s → lv_has ls maxL (lv_args 0 av) →
      W p l e (rmR fr lo) s m av.toArray below meth c s.heap [] 0 0 (MQ below QcV av.toArray s 0 0 (fun _ => False)) (F0 m 0 ls [])) : Rv l D cI cZ cJ y ws fr lo av W0 := by
  refine Met.ofW (cc := cc) (maxL := maxL) (ret := none) hy hw ?_
  intro p e s m args below meth c s₁ B hml hv
  obtain ⟨rfl, hP, hK, hN⟩ := hv
  have hl := lv_entry av (n := maxL) hav
  rw [lg_entry_eq]
  exact body p e s m below meth c _ B.exec B.bytes B.returns hml (atoms_spec (ws := ws) B.pre) (findClass_of_methodNamed B.named) B.notSynchronized hP hK hN hl
theorem mi_of {sz : Nat} (hy : plainName y.cls = true) (hw : ws = Cond.code y cc maxL ret :: ws') (hav : (lg_sl av).length ≤ maxL)
    (body : ∀ (p : Program) (e : Env) (s : State) (m : MethodId) (below : List Frame) (meth : Method) (c : Code) (ls : Array Slot) (A : Nat → Prop), p.tables.exec = Jvm.exec → c.code = cc → meth.sig.returnType = ret → c.maxLocals = maxL → (∀ w ∈ ws, w.before av.toArray s = true) → s.vm.findClass y.cls = some m.cls → meth.locks = false → (meth.name = y.name) → va_P D vwCl W0 s.heap → va_K D vwCl (tys9 cI cZ cJ) s → NM s → va_D A W0 → (∀ q : Nat, s.heap.size ≤ q → A q) → va_S A s.heap s.heap [] → lv_has ls maxL (lv_args 0 av) →
      W p l e (rmR fr lo) s m av.toArray below meth c s.heap [] 0 0 (MQ below (va_Qi (fun r (_ : Unit) => r = v) (fun _ t => va_P D vwCl W1 t.heap) A) av.toArray s 0 0 A) (F0 m 0 ls [])) : Mi l D cI cZ cJ y ws fr lo sz av W0 W1 v := by
  refine Met.ofW (cc := cc) (maxL := maxL) (ret := ret) hy hw ?_
  intro p e s m args below meth c s₁ B hml hv
  obtain ⟨rfl, hsz, hP, hK, hN, hD0⟩ := hv
  subst hsz
  have hl := lv_entry av (n := maxL) hav
  rw [lg_entry_eq]
  exact body p e s m below meth c _ _ B.exec B.bytes B.returns hml (atoms_spec (ws := ws) B.pre) (findClass_of_methodNamed B.named) B.notSynchronized (name_of_methodNamed B.named B.method).1 hP hK hN (hD0.self (sz := s.heap.size)) (fun q h => Or.inr h) va_S.rf hl
theorem mv_of {sz : Nat} (hy : plainName y.cls = true) (hw : ws = Cond.code y cc maxL none :: ws') (hav : (lg_sl av).length ≤ maxL)
    (body : ∀ (p : Program) (e : Env) (s : State) (m : MethodId) (below : List Frame) (meth : Method) (c : Code) (ls : Array Slot) (A : Nat → Prop), p.tables.exec = Jvm.exec → c.code = cc → meth.sig.returnType = none → c.maxLocals = maxL → (∀ w ∈ ws, w.before av.toArray s = true) → s.vm.findClass y.cls = some m.cls → meth.locks = false → (meth.name = y.name) → va_P D vwCl W0 s.heap → va_K D vwCl (tys9 cI cZ cJ) s → NM s → va_D A W0 → (∀ q : Nat, s.heap.size ≤ q → A q) → va_S A s.heap s.heap [] → lv_has ls maxL (lv_args 0 av) →
      W p l e (rmR fr lo) s m av.toArray below meth c s.heap [] 0 0 (MQ below (va_Qv (fun (_ : Unit) => True) (fun _ t => va_P D vwCl W1 t.heap) A) av.toArray s 0 0 A) (F0 m 0 ls [])) : Mv l D cI cZ cJ y ws fr lo sz av W0 W1 := by
  refine Met.ofW (cc := cc) (maxL := maxL) (ret := none) hy hw ?_
  intro p e s m args below meth c s₁ B hml hv
  obtain ⟨rfl, hsz, hP, hK, hN, hD0⟩ := hv
  subst hsz
  have hl := lv_entry av (n := maxL) hav
  rw [lg_entry_eq]
  exact body p e s m below meth c _ _ B.exec B.bytes B.returns hml (atoms_spec (ws := ws) B.pre) (findClass_of_methodNamed B.named) B.notSynchronized (name_of_methodNamed B.named B.method).1 hP hK hN (hD0.self (sz := s.heap.size)) (fun q h => Or.inr h) va_S.rf hl
theorem tx_of {sz : Nat} {k : Int32} (hy : plainName y.cls = true) (hw : ws = Cond.code y cc maxL ret :: ws') (hav : (lg_sl av).length ≤ maxL)
    (body : ∀ (p : Program) (e : Env) (s : State) (m : MethodId) (below : List Frame) (meth : Method) (c : Code) (ls : Array Slot) (A : Nat → Prop), p.tables.exec = Jvm.exec → c.code = cc → meth.sig.returnType = ret → c.maxLocals = maxL → (∀ w ∈ ws, w.before av.toArray s = true) → s.vm.findClass y.cls = some m.cls → meth.locks = false → (∀ x ∈ c.exceptionTable.toList, False) → va_P D vwCl W0 s.heap → va_K D vwCl (tys9 cI cZ cJ) s → NM s → va_D A W0 → (∀ q : Nat, s.heap.size ≤ q → A q) → va_S A s.heap s.heap [] → ZQ A s s.heap → lv_has ls maxL (lv_args 0 av) →
      W p l e (rmX fr lo) s m av.toArray below meth c s.heap [] 0 0 (vx_MQ below (fun _ _ _ _ => False) (vx_X (fun (_ : Unit) => True) (fun E _ t => E = xnm k ∧ va_P D vwCl W0 t.heap) A) av.toArray s 1 6 A) (F0 m 0 ls [])) : Tx l D cI cZ cJ y ws fr lo sz av W0 k := by
  refine vx_ofW (cc := cc) (maxL := maxL) (ret := ret) hy hw ?_
  intro p e s m args below meth c s₁ B hml ht hv
  obtain ⟨rfl, ⟨hsz, hP, hK, hN, hD0⟩, hZ⟩ := hv
  subst hsz
  have hl := lv_entry av (n := maxL) hav
  rw [lg_entry_eq]
  exact body p e s m below meth c _ _ B.exec B.bytes B.returns hml (atoms_spec (ws := ws) B.pre) (findClass_of_methodNamed B.named) B.notSynchronized ht hP hK hN (hD0.self (sz := s.heap.size)) (fun q h => Or.inr h) va_S.rf hZ hl
end BaseOf

section BaseRet
variable {p : Program} {l : Launch} {e : Env} {R : Room} {s : State} {m : MethodId} {args : Array Value} {below : List Frame} {meth : Method} {c : Code} {cc : ByteArray} {H : Heap} {locs : List Loc} {pc : Nat} {ls : Array Slot} {v v' : Int32} {D : va_G} {W1 : va_W} {A : Nat → Prop}
theorem rd_iret (hx : p.tables.exec = Jvm.exec) (hb : c.code = cc) (hr : meth.sig.returnType = some .int) (hlocks : meth.locks = false) (hp : v' = v) (hdg : decode cc pc = .ok (.ireturn, 1)) : W p l e R s m args below meth c s.heap [] 0 0 (MQ below (vp_Si (fun r => r = v)) args s 0 0 (fun _ => False)) (F0 m pc ls [.int v']) :=
  W.iret hx hb hr (fun t ht _ => ⟨v', rfl, hp, ht⟩) (fun q h => nomatch h) hdg hlocks
theorem rd_zret (hx : p.tables.exec = Jvm.exec) (hb : c.code = cc) (hr : meth.sig.returnType = some .boolean) (hlocks : meth.locks = false) (hp : v' = v) (hn : narrow .boolean (.int v') = .int v') (hdg : decode cc pc = .ok (.ireturn, 1)) : W p l e R s m args below meth c s.heap [] 0 0 (MQ below (vp_Si (fun r => r = v)) args s 0 0 (fun _ => False)) (F0 m pc ls [.int v']) :=
  W.zret hx hb hr hn (fun t ht _ => ⟨v', rfl, hp, ht⟩) (fun q h => nomatch h) hdg hlocks
theorem rv_ret (hx : p.tables.exec = Jvm.exec) (hb : c.code = cc) (hr : meth.sig.returnType = none) (hlocks : meth.locks = false) (hdg : decode cc pc = .ok (.return_, 1)) : W p l e R s m args below meth c s.heap [] 0 0 (MQ below QcV args s 0 0 (fun _ => False)) (F0 m pc ls []) :=
  W.vret hx hb hr (fun t ht _ => ⟨rfl, ht⟩) (fun q h => nomatch h) hdg hlocks
theorem mi_iret (hx : p.tables.exec = Jvm.exec) (hb : c.code = cc) (hr : meth.sig.returnType = some .int) (hlocks : meth.locks = false) (hS : va_S A s.heap H locs) (hp : v' = v) (hP : va_P D vwCl W1 H) (hdg : decode cc pc = .ok (.ireturn, 1)) : W p l e R s m args below meth c H locs 0 0 (MQ below (va_Qi (fun r (_ : Unit) => r = v) (fun _ t => va_P D vwCl W1 t.heap) A) args s 0 0 A) (F0 m pc ls [.int v']) :=
  W.iret hx hb hr (fun t ht _ => ⟨⟨v', (), rfl, hp, by show va_P D vwCl W1 t.heap; rw [ht]; exact hP⟩, hS.F ht⟩) hS.2.2 hdg hlocks
theorem mi_zret (hx : p.tables.exec = Jvm.exec) (hb : c.code = cc) (hr : meth.sig.returnType = some .boolean) (hlocks : meth.locks = false) (hS : va_S A s.heap H locs) (hp : v' = v) (hn : narrow .boolean (.int v') = .int v') (hP : va_P D vwCl W1 H) (hdg : decode cc pc = .ok (.ireturn, 1)) : W p l e R s m args below meth c H locs 0 0 (MQ below (va_Qi (fun r (_ : Unit) => r = v) (fun _ t => va_P D vwCl W1 t.heap) A) args s 0 0 A) (F0 m pc ls [.int v']) :=
  W.zret hx hb hr hn (fun t ht _ => ⟨⟨v', (), rfl, hp, by show va_P D vwCl W1 t.heap; rw [ht]; exact hP⟩, hS.F ht⟩) hS.2.2 hdg hlocks
theorem mv_ret (hx : p.tables.exec = Jvm.exec) (hb : c.code = cc) (hr : meth.sig.returnType = none) (hlocks : meth.locks = false) (hS : va_S A s.heap H locs) (hP : va_P D vwCl W1 H) (hdg : decode cc pc = .ok (.return_, 1)) : W p l e R s m args below meth c H locs 0 0 (MQ below (va_Qv (fun (_ : Unit) => True) (fun _ t => va_P D vwCl W1 t.heap) A) args s 0 0 A) (F0 m pc ls []) :=
  W.vret hx hb hr (fun t ht _ => ⟨⟨(), rfl, trivial, by show va_P D vwCl W1 t.heap; rw [ht]; exact hP⟩, hS.F ht⟩) hS.2.2 hdg hlocks
end BaseRet

section BaseCalls
variable {p : Program} {l : Launch} {e : Env} {R : Room} {s : State} {m : MethodId} {args : Array Value} {below : List Frame} {meth : Method} {c : Code} {cc bytes : ByteArray} {H : Heap} {locs : List Loc} {cells slots : Nat} {Q : State → Prop} {pc : Nat} {ls : Array Slot} {v : Int32} {D : va_G} {cI cZ cJ : ClassId} {ws W0 W1 Wc W2 : va_W} {A : Nat → Prop} {own C host : String} {index maxL nL fr lo n : Nat} {y : MethodName} {ret : Option FieldType} {wy Ts : List Cond} {As rest st0 : List Value} {b : Addr}
/-- a call that reads: the heap is the same behind it -/
theorem rs_call {a : Array Value} (hr : va_Run p l e R s m args below meth c H locs cells slots 0 0 (F0 m pc ls st0) rest (vp_Si (fun r => r = v) a) (fun _ => False))
    (kk : W p l e R s m args below meth c H locs cells slots Q (F0 m (pc + 3) ls (.int v :: rest))) : W p l e R s m args below meth c H locs cells slots Q (F0 m pc ls st0) := by
  intro T hT X
  obtain ⟨v1, st₀, t, T', L, h0, X', hL, e1, -, ⟨r, hv, hp, hh⟩, st⟩ := hr T hT X
  cases hv
  cases hp
  obtain ⟨t2, a1, b1⟩ := kk T' (by rw [e1, hh, h0]) (Stand.forget X' (fun q h => (hL q h).elim))
  exact ⟨t2, st t2 a1, b1⟩
theorem rs_callv {a : Array Value} (hr : va_Run p l e R s m args below meth c H locs cells slots 0 0 (F0 m pc ls st0) rest (QcV a) (fun _ => False))
    (kk : W p l e R s m args below meth c H locs cells slots Q (F0 m (pc + 3) ls rest)) : W p l e R s m args below meth c H locs cells slots Q (F0 m pc ls st0) := by
  intro T hT X
  obtain ⟨v1, st₀, t, T', L, h0, X', hL, e1, -, ⟨hv, hh⟩, st⟩ := hr T hT X
  cases hv
  obtain ⟨t2, a1, b1⟩ := kk T' (by rw [e1, hh, h0]) (Stand.forget X' (fun q h => (hL q h).elim))
  exact ⟨t2, st t2 a1, b1⟩
theorem rb_in (hP : va_P D vwCl W0 H) (hK : va_K D vwCl (tys9 cI cZ cJ) s) (hN : NM s) (As : List Value) : FrameBlind (va_Pc As (RB D cI cZ cJ W0)) ∧ ∀ U : State, U.heap = H → s.WarmedH U.vm → va_Pc As (RB D cI cZ cJ W0) As.toArray U :=
  ⟨RB.blind, fun U hU hW => ⟨rfl, by rw [hU]; exact hP, va_K.moved hW.alike hK, NM.warm hW hN⟩⟩
theorem mb_in (hP : va_P D vwCl W0 H) (hK : va_K D vwCl (tys9 cI cZ cJ) s) (hN : NM s) (hD : va_D A W0) (As : List Value) : FrameBlind (va_Pc As (MB D cI cZ cJ W0 H.size)) ∧ ∀ U : State, U.heap = H → s.WarmedH U.vm → va_Pc As (MB D cI cZ cJ W0 H.size) As.toArray U :=
  ⟨MB.blind, fun U hU hW => ⟨rfl, by rw [hU], by rw [hU]; exact hP, va_K.moved hW.alike hK, NM.warm hW hN, hD.weaken (fun _ _ _ _ => trivial)⟩⟩
theorem xb_in (hP : va_P D vwCl W0 H) (hK : va_K D vwCl (tys9 cI cZ cJ) s) (hN : NM s) (hD : va_D A W0) (hZ : ZQ A s H) (hF : ∀ q, va_A W0 H.size q → A q) (As : List Value) : FrameBlind (va_Pc As (XB D cI cZ cJ W0 H.size)) ∧ ∀ U : State, U.heap = H → s.WarmedH U.vm → va_Pc As (XB D cI cZ cJ W0 H.size) As.toArray U :=
  ⟨XB.blind, fun U hU hW => ⟨rfl, ⟨by rw [hU], by rw [hU]; exact hP, va_K.moved hW.alike hK, NM.warm hW hN, hD.weaken (fun _ _ _ _ => trivial)⟩, by rw [hU]; exact ZQ.moved hW.alike (hZ.narrow hF)⟩⟩
theorem rd_S (S : CallFix p m c cc nL s args Ts own) (hM : Rd l D cI cZ cJ y wy fr lo As W0 v) (cw : CallB R s args own index y bytes maxL ret wy (rmR fr lo) 0 0 n ∧ (Cond.static y).before args s = true)
    (hP : va_P D vwCl W0 H) (hK : va_K D vwCl (tys9 cI cZ cJ) s) (hN : NM s) (hn : As.length = n) (hsize : ls.size = nL) (hst : st0 = As.reverse ++ rest) (hW : (rest.map fun v => v.category).sum ≤ 8) (hdg : decode cc pc = .ok (.invokestatic index, 3)) (hf : cells ≤ R.cells ∧ slots ≤ R.slots)
    (kk : W p l e R s m args below meth c H locs cells slots Q (F0 m (pc + 3) ls (.int v :: rest))) : W p l e R s m args below meth c H locs cells slots Q (F0 m pc ls st0) :=
  rs_call (va_runS (As := As) (rest := rest) S hM cw (rb_in hP hK hN As) rfl hn hsize hst (lv_room hW) hdg hf) kk
theorem rd_SN (S : CallFix p m c cc nL s args Ts own) (hM : Rd l D cI cZ cJ y wy fr lo As W0 v) (cw : va_CN R s args own index y host bytes maxL ret wy (rmR fr lo) 0 0 n ∧ (Cond.static y).before args s = true ∧ True)
    (hP : va_P D vwCl W0 H) (hK : va_K D vwCl (tys9 cI cZ cJ) s) (hN : NM s) (hn : As.length = n) (hsize : ls.size = nL) (hst : st0 = As.reverse ++ rest) (hW : (rest.map fun v => v.category).sum ≤ 8) (hdg : decode cc pc = .ok (.invokestatic index, 3)) (hf : cells ≤ R.cells ∧ slots ≤ R.slots)
    (kk : W p l e R s m args below meth c H locs cells slots Q (F0 m (pc + 3) ls (.int v :: rest))) : W p l e R s m args below meth c H locs cells slots Q (F0 m pc ls st0) :=
  rs_call (va_runSN (As := As) (rest := rest) S hM cw (rb_in hP hK hN As) rfl hn hsize hst (lv_room hW) hdg hf) kk
theorem rd_V (S : CallFix p m c cc nL s args Ts own) (hM : Rd l D cI cZ cJ y wy fr lo (.ref b :: As) W0 v) (cw : CallW R s args own C index y bytes maxL ret wy (rmR fr lo) 0 0 n)
    (hP : va_P D vwCl W0 H) (hK : va_K D vwCl (tys9 cI cZ cJ) s) (hN : NM s) (hrec : ∃ cell : Cell, H[b]? = some cell ∧ cell.vm.isStatics = false ∧ s.vm.findClass C = some cell.cls) (hn : As.length = n) (hsize : ls.size = nL) (hst : st0 = As.reverse ++ .ref b :: rest) (hW : (rest.map fun v => v.category).sum ≤ 8) (hdg : decode cc pc = .ok (.invokevirtual index, 3)) (hf : cells ≤ R.cells ∧ slots ≤ R.slots)
    (kk : W p l e R s m args below meth c H locs cells slots Q (F0 m (pc + 3) ls (.int v :: rest))) : W p l e R s m args below meth c H locs cells slots Q (F0 m pc ls st0) :=
  rs_call (va_runV (As := As) (rest := rest) (b := b) S hM cw ⟨(rb_in hP hK hN (.ref b :: As)).1, hrec, (rb_in hP hK hN (.ref b :: As)).2⟩ rfl hn hsize hst (lv_room hW) hdg hf) kk
theorem rd_VN (S : CallFix p m c cc nL s args Ts own) (hM : Rd l D cI cZ cJ y wy fr lo (.ref b :: As) W0 v) (cw : va_CN R s args own index y host bytes maxL ret wy (rmR fr lo) 0 0 n ∧ (Cond.instanceMethod y).before args s = true ∧ (Cond.selects C y y).before args s = true)
    (hP : va_P D vwCl W0 H) (hK : va_K D vwCl (tys9 cI cZ cJ) s) (hN : NM s) (hrec : ∃ cell : Cell, H[b]? = some cell ∧ cell.vm.isStatics = false ∧ s.vm.findClass C = some cell.cls) (hn : As.length = n) (hsize : ls.size = nL) (hst : st0 = As.reverse ++ .ref b :: rest) (hW : (rest.map fun v => v.category).sum ≤ 8) (hdg : decode cc pc = .ok (.invokevirtual index, 3)) (hf : cells ≤ R.cells ∧ slots ≤ R.slots)
    (kk : W p l e R s m args below meth c H locs cells slots Q (F0 m (pc + 3) ls (.int v :: rest))) : W p l e R s m args below meth c H locs cells slots Q (F0 m pc ls st0) :=
  rs_call (va_runVN (As := As) (rest := rest) (b := b) S hM cw ⟨(rb_in hP hK hN (.ref b :: As)).1, hrec, (rb_in hP hK hN (.ref b :: As)).2⟩ rfl hn hsize hst (lv_room hW) hdg hf) kk
theorem rv_V (S : CallFix p m c cc nL s args Ts own) (hM : Rv l D cI cZ cJ y wy fr lo (.ref b :: As) W0) (cw : CallW R s args own C index y bytes maxL ret wy (rmR fr lo) 0 0 n)
    (hP : va_P D vwCl W0 H) (hK : va_K D vwCl (tys9 cI cZ cJ) s) (hN : NM s) (hrec : ∃ cell : Cell, H[b]? = some cell ∧ cell.vm.isStatics = false ∧ s.vm.findClass C = some cell.cls) (hn : As.length = n) (hsize : ls.size = nL) (hst : st0 = As.reverse ++ .ref b :: rest) (hW : (rest.map fun v => v.category).sum ≤ 8) (hdg : decode cc pc = .ok (.invokevirtual index, 3)) (hf : cells ≤ R.cells ∧ slots ≤ R.slots)
    (kk : W p l e R s m args below meth c H locs cells slots Q (F0 m (pc + 3) ls rest)) : W p l e R s m args below meth c H locs cells slots Q (F0 m pc ls st0) :=
  rs_callv (va_runV (As := As) (rest := rest) (b := b) S hM cw ⟨(rb_in hP hK hN (.ref b :: As)).1, hrec, (rb_in hP hK hN (.ref b :: As)).2⟩ rfl hn hsize hst (lv_room hW) hdg hf) kk
theorem wd_cut (hP : va_P D vwCl ws H) (isC : List Nat) (hC : isC.map (fun i => ws[i]?) = Wc.map some) : va_P D vwCl Wc H := by
  intro k q hq
  have h1 : (isC.map (fun i => ws[i]?))[k]? = some (some q) := by rw [hC, List.getElem?_map, hq]; rfl
  rw [List.getElem?_map] at h1
  cases hi : isC[k]? with
  | none => rw [hi] at h1; cases h1
  | some i => rw [hi] at h1; exact hP i q (Option.some.inj h1)
/-- a world's cells behind a call that changed some of them -/
theorem wd_back {H1 : Heap} (hP : va_P D vwCl ws H) (hD : va_D A ws) (isC isR : List Nat) (hC : isC.map (fun i => ws[i]?) = Wc.map some) (h1 : isC.map (fun i => W2[i]?) = W1.map some) (hR : ∀ i ∈ isR, W2[i]? = ws[i]?) (hfst : W2.map (fun q => q.1) = ws.map (fun q => q.1)) (hall : ∀ i, i < W2.length → i ∈ isC ∨ i ∈ isR) (hdis : ∀ i ∈ isR, i ∉ isC)
    (hk : ∀ q : Nat, q < H.size → ¬ va_A Wc H.size q → H1[q]? = H[q]?) (hP1 : va_P D vwCl W1 H1) : va_P D vwCl W2 H1 ∧ va_D A W2 := by
  have hD2 : va_D A W2 := by
    have key : ∀ (k : Nat) (q : Nat × va_E), W2[k]? = some q → ∃ q0, ws[k]? = some q0 ∧ q0.1 = q.1 := by
      intro k q hq
      have h2 : (W2.map (fun q => q.1))[k]? = some q.1 := by rw [List.getElem?_map, hq]; rfl
      rw [hfst, List.getElem?_map] at h2
      cases h3 : ws[k]? with
      | none => rw [h3] at h2; cases h2
      | some q0 => rw [h3] at h2; exact ⟨q0, rfl, Option.some.inj h2⟩
    refine ⟨fun i j x y hi hj hxy => ?_, fun k q hk => ?_⟩
    · obtain ⟨x0, a1, a2⟩ := key i x hi
      obtain ⟨y0, b1, b2⟩ := key j y hj
      exact hD.1 i j x0 y0 a1 b1 (a2.trans (hxy.trans b2.symm))
    · obtain ⟨q0, a1, a2⟩ := key k q hk
      rw [← a2]
      exact hD.2 k q0 a1
  refine ⟨fun k q hq => ?_, hD2⟩
  have hlt : k < W2.length := (List.getElem?_eq_some_iff.mp hq).1
  rcases hall k hlt with h | h
  · obtain ⟨j, hj⟩ := List.getElem?_of_mem h
    have h3 : (isC.map (fun i => W2[i]?))[j]? = some (some q) := by rw [List.getElem?_map, hj]; exact congrArg some hq
    rw [h1, List.getElem?_map] at h3
    cases h4 : W1[j]? with
    | none => rw [h4] at h3; cases h3
    | some x =>
      rw [h4] at h3
      have h5 : x = q := Option.some.inj (Option.some.inj h3)
      exact hP1 j q (by rw [h4, h5])
  · have hq0 : ws[k]? = some q := by rw [← hR k h]; exact hq
    refine (hP k q hq0).kept (hk q.1 (hP k q hq0).lt ?_)
    intro z
    rcases z with ⟨j, e0, hj⟩ | hj
    · have h3 : (isC.map (fun i => ws[i]?))[j]? = some (some (q.1, e0)) := by rw [hC, List.getElem?_map, hj]; rfl
      rw [List.getElem?_map] at h3
      cases h4 : isC[j]? with
      | none => rw [h4] at h3; cases h3
      | some i =>
        rw [h4] at h3
        have h5 : ws[i]? = some (q.1, e0) := Option.some.inj h3
        have h6 := hD.1 k i q (q.1, e0) hq0 h5 rfl
        subst h6
        exact hdis k h (List.mem_of_getElem? h4)
    · exact absurd (hP k q hq0).lt (Nat.not_lt.mpr hj)
theorem rv_VN (S : CallFix p m c cc nL s args Ts own) (hM : Rv l D cI cZ cJ y wy fr lo (.ref b :: As) W0) (cw : va_CN R s args own index y host bytes maxL ret wy (rmR fr lo) 0 0 n ∧ (Cond.instanceMethod y).before args s = true ∧ (Cond.selects C y y).before args s = true)
    (hP : va_P D vwCl W0 H) (hK : va_K D vwCl (tys9 cI cZ cJ) s) (hN : NM s) (hrec : ∃ cell : Cell, H[b]? = some cell ∧ cell.vm.isStatics = false ∧ s.vm.findClass C = some cell.cls) (hn : As.length = n) (hsize : ls.size = nL) (hst : st0 = As.reverse ++ .ref b :: rest) (hW : (rest.map fun v => v.category).sum ≤ 8) (hdg : decode cc pc = .ok (.invokevirtual index, 3)) (hf : cells ≤ R.cells ∧ slots ≤ R.slots)
    (kk : W p l e R s m args below meth c H locs cells slots Q (F0 m (pc + 3) ls rest)) : W p l e R s m args below meth c H locs cells slots Q (F0 m pc ls st0) :=
  rs_callv (va_runVN (As := As) (rest := rest) (b := b) S hM cw ⟨(rb_in hP hK hN (.ref b :: As)).1, hrec, (rb_in hP hK hN (.ref b :: As)).2⟩ rfl hn hsize hst (lv_room hW) hdg hf) kk
theorem mi_call {a : Array Value} (hr : va_Run p l e R s m args below meth c H locs cells slots 0 0 (F0 m pc ls st0) rest (va_Qi (fun r (_ : Unit) => r = v) (fun _ t => va_P D vwCl W1 t.heap) (va_A Wc H.size) a) (va_A Wc H.size))
    (hP : va_P D vwCl ws H) (hD : va_D A ws) (hS : va_S A s.heap H locs) (hA : ∀ q : Nat, s.heap.size ≤ q → A q) (isC isR : List Nat) (hC : isC.map (fun i => ws[i]?) = Wc.map some) (h1 : isC.map (fun i => W2[i]?) = W1.map some) (hR : ∀ i ∈ isR, W2[i]? = ws[i]?) (hfst : W2.map (fun q => q.1) = ws.map (fun q => q.1)) (k : Nat) (hlen : W2.length = k) (hall : ∀ i, i < k → i ∈ isC ∨ i ∈ isR) (hdis : ∀ i ∈ isR, i ∉ isC)
    (kk : ∀ (H : Heap) (locs : List Loc), va_P D vwCl W2 H → va_D A W2 → va_S A s.heap H locs → W p l e R s m args below meth c H locs cells slots Q (F0 m (pc + 3) ls (.int v :: rest))) : W p l e R s m args below meth c H locs cells slots Q (F0 m pc ls st0) := by
  have hFc := va_free hD hS hA isC hC
  refine va_calli hr hS (fun q _ h => hFc q h) hFc (fun r u t H1 locs1 ht hvm hw hB hz1 hk1 hS1 => ?_)
  subst hw
  have hB2 : va_P D vwCl W1 t.heap := hB
  rw [ht] at hB2
  obtain ⟨hP2, hD2⟩ := wd_back hP hD isC isR hC h1 hR hfst (by rw [hlen]; exact hall) hdis hk1 hB2
  exact kk H1 locs1 hP2 hD2 hS1
theorem mv_call {a : Array Value} (hr : va_Run p l e R s m args below meth c H locs cells slots 0 0 (F0 m pc ls st0) rest (va_Qv (fun (_ : Unit) => True) (fun _ t => va_P D vwCl W1 t.heap) (va_A Wc H.size) a) (va_A Wc H.size))
    (hP : va_P D vwCl ws H) (hD : va_D A ws) (hS : va_S A s.heap H locs) (hA : ∀ q : Nat, s.heap.size ≤ q → A q) (isC isR : List Nat) (hC : isC.map (fun i => ws[i]?) = Wc.map some) (h1 : isC.map (fun i => W2[i]?) = W1.map some) (hR : ∀ i ∈ isR, W2[i]? = ws[i]?) (hfst : W2.map (fun q => q.1) = ws.map (fun q => q.1)) (k : Nat) (hlen : W2.length = k) (hall : ∀ i, i < k → i ∈ isC ∨ i ∈ isR) (hdis : ∀ i ∈ isR, i ∉ isC)
    (kk : ∀ (H : Heap) (locs : List Loc), va_P D vwCl W2 H → va_D A W2 → va_S A s.heap H locs → W p l e R s m args below meth c H locs cells slots Q (F0 m (pc + 3) ls rest)) : W p l e R s m args below meth c H locs cells slots Q (F0 m pc ls st0) := by
  have hFc := va_free hD hS hA isC hC
  refine va_callv hr hS (fun q _ h => hFc q h) hFc (fun u t H1 locs1 ht hvm hw hB hz1 hk1 hS1 => ?_)
  have hB2 : va_P D vwCl W1 t.heap := hB
  rw [ht] at hB2
  obtain ⟨hP2, hD2⟩ := wd_back hP hD isC isR hC h1 hR hfst (by rw [hlen]; exact hall) hdis hk1 hB2
  exact kk H1 locs1 hP2 hD2 hS1
theorem mi_VN (S : CallFix p m c cc nL s args Ts own) (hM : Mi l D cI cZ cJ y wy fr lo H.size (.ref b :: As) Wc W1 v) (cw : va_CN R s args own index y host bytes maxL ret wy (rmR fr lo) 0 0 n ∧ (Cond.instanceMethod y).before args s = true ∧ (Cond.selects C y y).before args s = true)
    (hP : va_P D vwCl ws H) (hD : va_D A ws) (hK : va_K D vwCl (tys9 cI cZ cJ) s) (hN : NM s) (hS : va_S A s.heap H locs) (hA : ∀ q : Nat, s.heap.size ≤ q → A q) (hrec : ∃ cell : Cell, H[b]? = some cell ∧ cell.vm.isStatics = false ∧ s.vm.findClass C = some cell.cls) (hn : As.length = n) (hsize : ls.size = nL) (hst : st0 = As.reverse ++ .ref b :: rest) (hW : (rest.map fun v => v.category).sum ≤ 8) (hdg : decode cc pc = .ok (.invokevirtual index, 3)) (hf : cells ≤ R.cells ∧ slots ≤ R.slots)
    (isC isR : List Nat) (hnd : va_nd isC = true) (hC : isC.map (fun i => ws[i]?) = Wc.map some) (h1 : isC.map (fun i => W2[i]?) = W1.map some) (hR : ∀ i ∈ isR, W2[i]? = ws[i]?) (hfst : W2.map (fun q => q.1) = ws.map (fun q => q.1)) (k : Nat) (hlen : W2.length = k) (hall : ∀ i, i < k → i ∈ isC ∨ i ∈ isR) (hdis : ∀ i ∈ isR, i ∉ isC)
    (kk : ∀ (H : Heap) (locs : List Loc), va_P D vwCl W2 H → va_D A W2 → va_S A s.heap H locs → W p l e R s m args below meth c H locs cells slots Q (F0 m (pc + 3) ls (.int v :: rest))) : W p l e R s m args below meth c H locs cells slots Q (F0 m pc ls st0) := by
  have hPc : va_P D vwCl Wc H := wd_cut hP isC hC
  have hDc : va_D A Wc := hD.sub isC hnd hC
  exact mi_call (va_runVN (As := As) (rest := rest) (b := b) S hM cw ⟨(mb_in hPc hK hN hDc (.ref b :: As)).1, hrec, (mb_in hPc hK hN hDc (.ref b :: As)).2⟩ rfl hn hsize hst (lv_room hW) hdg hf) hP hD hS hA isC isR hC h1 hR hfst k hlen hall hdis kk
theorem mi_V (S : CallFix p m c cc nL s args Ts own) (hM : Mi l D cI cZ cJ y wy fr lo H.size (.ref b :: As) Wc W1 v) (cw : CallW R s args own C index y bytes maxL ret wy (rmR fr lo) 0 0 n)
    (hP : va_P D vwCl ws H) (hD : va_D A ws) (hK : va_K D vwCl (tys9 cI cZ cJ) s) (hN : NM s) (hS : va_S A s.heap H locs) (hA : ∀ q : Nat, s.heap.size ≤ q → A q) (hrec : ∃ cell : Cell, H[b]? = some cell ∧ cell.vm.isStatics = false ∧ s.vm.findClass C = some cell.cls) (hn : As.length = n) (hsize : ls.size = nL) (hst : st0 = As.reverse ++ .ref b :: rest) (hW : (rest.map fun v => v.category).sum ≤ 8) (hdg : decode cc pc = .ok (.invokevirtual index, 3)) (hf : cells ≤ R.cells ∧ slots ≤ R.slots)
    (isC isR : List Nat) (hnd : va_nd isC = true) (hC : isC.map (fun i => ws[i]?) = Wc.map some) (h1 : isC.map (fun i => W2[i]?) = W1.map some) (hR : ∀ i ∈ isR, W2[i]? = ws[i]?) (hfst : W2.map (fun q => q.1) = ws.map (fun q => q.1)) (k : Nat) (hlen : W2.length = k) (hall : ∀ i, i < k → i ∈ isC ∨ i ∈ isR) (hdis : ∀ i ∈ isR, i ∉ isC)
    (kk : ∀ (H : Heap) (locs : List Loc), va_P D vwCl W2 H → va_D A W2 → va_S A s.heap H locs → W p l e R s m args below meth c H locs cells slots Q (F0 m (pc + 3) ls (.int v :: rest))) : W p l e R s m args below meth c H locs cells slots Q (F0 m pc ls st0) := by
  have hPc : va_P D vwCl Wc H := wd_cut hP isC hC
  have hDc : va_D A Wc := hD.sub isC hnd hC
  exact mi_call (va_runV (As := As) (rest := rest) (b := b) S hM cw ⟨(mb_in hPc hK hN hDc (.ref b :: As)).1, hrec, (mb_in hPc hK hN hDc (.ref b :: As)).2⟩ rfl hn hsize hst (lv_room hW) hdg hf) hP hD hS hA isC isR hC h1 hR hfst k hlen hall hdis kk
theorem mi_SN (S : CallFix p m c cc nL s args Ts own) (hM : Mi l D cI cZ cJ y wy fr lo H.size As Wc W1 v) (cw : va_CN R s args own index y host bytes maxL ret wy (rmR fr lo) 0 0 n ∧ (Cond.static y).before args s = true ∧ True)
    (hP : va_P D vwCl ws H) (hD : va_D A ws) (hK : va_K D vwCl (tys9 cI cZ cJ) s) (hN : NM s) (hS : va_S A s.heap H locs) (hA : ∀ q : Nat, s.heap.size ≤ q → A q)  (hn : As.length = n) (hsize : ls.size = nL) (hst : st0 = As.reverse ++ rest) (hW : (rest.map fun v => v.category).sum ≤ 8) (hdg : decode cc pc = .ok (.invokestatic index, 3)) (hf : cells ≤ R.cells ∧ slots ≤ R.slots)
    (isC isR : List Nat) (hnd : va_nd isC = true) (hC : isC.map (fun i => ws[i]?) = Wc.map some) (h1 : isC.map (fun i => W2[i]?) = W1.map some) (hR : ∀ i ∈ isR, W2[i]? = ws[i]?) (hfst : W2.map (fun q => q.1) = ws.map (fun q => q.1)) (k : Nat) (hlen : W2.length = k) (hall : ∀ i, i < k → i ∈ isC ∨ i ∈ isR) (hdis : ∀ i ∈ isR, i ∉ isC)
    (kk : ∀ (H : Heap) (locs : List Loc), va_P D vwCl W2 H → va_D A W2 → va_S A s.heap H locs → W p l e R s m args below meth c H locs cells slots Q (F0 m (pc + 3) ls (.int v :: rest))) : W p l e R s m args below meth c H locs cells slots Q (F0 m pc ls st0) := by
  have hPc : va_P D vwCl Wc H := wd_cut hP isC hC
  have hDc : va_D A Wc := hD.sub isC hnd hC
  exact mi_call (va_runSN (As := As) (rest := rest) S hM cw (mb_in hPc hK hN hDc As) rfl hn hsize hst (lv_room hW) hdg hf) hP hD hS hA isC isR hC h1 hR hfst k hlen hall hdis kk
theorem mi_S (S : CallFix p m c cc nL s args Ts own) (hM : Mi l D cI cZ cJ y wy fr lo H.size As Wc W1 v) (cw : CallB R s args own index y bytes maxL ret wy (rmR fr lo) 0 0 n ∧ (Cond.static y).before args s = true)
    (hP : va_P D vwCl ws H) (hD : va_D A ws) (hK : va_K D vwCl (tys9 cI cZ cJ) s) (hN : NM s) (hS : va_S A s.heap H locs) (hA : ∀ q : Nat, s.heap.size ≤ q → A q)  (hn : As.length = n) (hsize : ls.size = nL) (hst : st0 = As.reverse ++ rest) (hW : (rest.map fun v => v.category).sum ≤ 8) (hdg : decode cc pc = .ok (.invokestatic index, 3)) (hf : cells ≤ R.cells ∧ slots ≤ R.slots)
    (isC isR : List Nat) (hnd : va_nd isC = true) (hC : isC.map (fun i => ws[i]?) = Wc.map some) (h1 : isC.map (fun i => W2[i]?) = W1.map some) (hR : ∀ i ∈ isR, W2[i]? = ws[i]?) (hfst : W2.map (fun q => q.1) = ws.map (fun q => q.1)) (k : Nat) (hlen : W2.length = k) (hall : ∀ i, i < k → i ∈ isC ∨ i ∈ isR) (hdis : ∀ i ∈ isR, i ∉ isC)
    (kk : ∀ (H : Heap) (locs : List Loc), va_P D vwCl W2 H → va_D A W2 → va_S A s.heap H locs → W p l e R s m args below meth c H locs cells slots Q (F0 m (pc + 3) ls (.int v :: rest))) : W p l e R s m args below meth c H locs cells slots Q (F0 m pc ls st0) := by
  have hPc : va_P D vwCl Wc H := wd_cut hP isC hC
  have hDc : va_D A Wc := hD.sub isC hnd hC
  exact mi_call (va_runS (As := As) (rest := rest) S hM cw (mb_in hPc hK hN hDc As) rfl hn hsize hst (lv_room hW) hdg hf) hP hD hS hA isC isR hC h1 hR hfst k hlen hall hdis kk
theorem mv_VN (S : CallFix p m c cc nL s args Ts own) (hM : Mv l D cI cZ cJ y wy fr lo H.size (.ref b :: As) Wc W1) (cw : va_CN R s args own index y host bytes maxL ret wy (rmR fr lo) 0 0 n ∧ (Cond.instanceMethod y).before args s = true ∧ (Cond.selects C y y).before args s = true)
    (hP : va_P D vwCl ws H) (hD : va_D A ws) (hK : va_K D vwCl (tys9 cI cZ cJ) s) (hN : NM s) (hS : va_S A s.heap H locs) (hA : ∀ q : Nat, s.heap.size ≤ q → A q) (hrec : ∃ cell : Cell, H[b]? = some cell ∧ cell.vm.isStatics = false ∧ s.vm.findClass C = some cell.cls) (hn : As.length = n) (hsize : ls.size = nL) (hst : st0 = As.reverse ++ .ref b :: rest) (hW : (rest.map fun v => v.category).sum ≤ 8) (hdg : decode cc pc = .ok (.invokevirtual index, 3)) (hf : cells ≤ R.cells ∧ slots ≤ R.slots)
    (isC isR : List Nat) (hnd : va_nd isC = true) (hC : isC.map (fun i => ws[i]?) = Wc.map some) (h1 : isC.map (fun i => W2[i]?) = W1.map some) (hR : ∀ i ∈ isR, W2[i]? = ws[i]?) (hfst : W2.map (fun q => q.1) = ws.map (fun q => q.1)) (k : Nat) (hlen : W2.length = k) (hall : ∀ i, i < k → i ∈ isC ∨ i ∈ isR) (hdis : ∀ i ∈ isR, i ∉ isC)
    (kk : ∀ (H : Heap) (locs : List Loc), va_P D vwCl W2 H → va_D A W2 → va_S A s.heap H locs → W p l e R s m args below meth c H locs cells slots Q (F0 m (pc + 3) ls rest)) : W p l e R s m args below meth c H locs cells slots Q (F0 m pc ls st0) := by
  have hPc : va_P D vwCl Wc H := wd_cut hP isC hC
  have hDc : va_D A Wc := hD.sub isC hnd hC
  exact mv_call (va_runVN (As := As) (rest := rest) (b := b) S hM cw ⟨(mb_in hPc hK hN hDc (.ref b :: As)).1, hrec, (mb_in hPc hK hN hDc (.ref b :: As)).2⟩ rfl hn hsize hst (lv_room hW) hdg hf) hP hD hS hA isC isR hC h1 hR hfst k hlen hall hdis kk
theorem mv_V (S : CallFix p m c cc nL s args Ts own) (hM : Mv l D cI cZ cJ y wy fr lo H.size (.ref b :: As) Wc W1) (cw : CallW R s args own C index y bytes maxL ret wy (rmR fr lo) 0 0 n)
    (hP : va_P D vwCl ws H) (hD : va_D A ws) (hK : va_K D vwCl (tys9 cI cZ cJ) s) (hN : NM s) (hS : va_S A s.heap H locs) (hA : ∀ q : Nat, s.heap.size ≤ q → A q) (hrec : ∃ cell : Cell, H[b]? = some cell ∧ cell.vm.isStatics = false ∧ s.vm.findClass C = some cell.cls) (hn : As.length = n) (hsize : ls.size = nL) (hst : st0 = As.reverse ++ .ref b :: rest) (hW : (rest.map fun v => v.category).sum ≤ 8) (hdg : decode cc pc = .ok (.invokevirtual index, 3)) (hf : cells ≤ R.cells ∧ slots ≤ R.slots)
    (isC isR : List Nat) (hnd : va_nd isC = true) (hC : isC.map (fun i => ws[i]?) = Wc.map some) (h1 : isC.map (fun i => W2[i]?) = W1.map some) (hR : ∀ i ∈ isR, W2[i]? = ws[i]?) (hfst : W2.map (fun q => q.1) = ws.map (fun q => q.1)) (k : Nat) (hlen : W2.length = k) (hall : ∀ i, i < k → i ∈ isC ∨ i ∈ isR) (hdis : ∀ i ∈ isR, i ∉ isC)
    (kk : ∀ (H : Heap) (locs : List Loc), va_P D vwCl W2 H → va_D A W2 → va_S A s.heap H locs → W p l e R s m args below meth c H locs cells slots Q (F0 m (pc + 3) ls rest)) : W p l e R s m args below meth c H locs cells slots Q (F0 m pc ls st0) := by
  have hPc : va_P D vwCl Wc H := wd_cut hP isC hC
  have hDc : va_D A Wc := hD.sub isC hnd hC
  exact mv_call (va_runV (As := As) (rest := rest) (b := b) S hM cw ⟨(mb_in hPc hK hN hDc (.ref b :: As)).1, hrec, (mb_in hPc hK hN hDc (.ref b :: As)).2⟩ rfl hn hsize hst (lv_room hW) hdg hf) hP hD hS hA isC isR hC h1 hR hfst k hlen hall hdis kk
theorem mv_SN (S : CallFix p m c cc nL s args Ts own) (hM : Mv l D cI cZ cJ y wy fr lo H.size As Wc W1) (cw : va_CN R s args own index y host bytes maxL ret wy (rmR fr lo) 0 0 n ∧ (Cond.static y).before args s = true ∧ True)
    (hP : va_P D vwCl ws H) (hD : va_D A ws) (hK : va_K D vwCl (tys9 cI cZ cJ) s) (hN : NM s) (hS : va_S A s.heap H locs) (hA : ∀ q : Nat, s.heap.size ≤ q → A q)  (hn : As.length = n) (hsize : ls.size = nL) (hst : st0 = As.reverse ++ rest) (hW : (rest.map fun v => v.category).sum ≤ 8) (hdg : decode cc pc = .ok (.invokestatic index, 3)) (hf : cells ≤ R.cells ∧ slots ≤ R.slots)
    (isC isR : List Nat) (hnd : va_nd isC = true) (hC : isC.map (fun i => ws[i]?) = Wc.map some) (h1 : isC.map (fun i => W2[i]?) = W1.map some) (hR : ∀ i ∈ isR, W2[i]? = ws[i]?) (hfst : W2.map (fun q => q.1) = ws.map (fun q => q.1)) (k : Nat) (hlen : W2.length = k) (hall : ∀ i, i < k → i ∈ isC ∨ i ∈ isR) (hdis : ∀ i ∈ isR, i ∉ isC)
    (kk : ∀ (H : Heap) (locs : List Loc), va_P D vwCl W2 H → va_D A W2 → va_S A s.heap H locs → W p l e R s m args below meth c H locs cells slots Q (F0 m (pc + 3) ls rest)) : W p l e R s m args below meth c H locs cells slots Q (F0 m pc ls st0) := by
  have hPc : va_P D vwCl Wc H := wd_cut hP isC hC
  have hDc : va_D A Wc := hD.sub isC hnd hC
  exact mv_call (va_runSN (As := As) (rest := rest) S hM cw (mb_in hPc hK hN hDc As) rfl hn hsize hst (lv_room hW) hdg hf) hP hD hS hA isC isR hC h1 hR hfst k hlen hall hdis kk
theorem mv_S (S : CallFix p m c cc nL s args Ts own) (hM : Mv l D cI cZ cJ y wy fr lo H.size As Wc W1) (cw : CallB R s args own index y bytes maxL ret wy (rmR fr lo) 0 0 n ∧ (Cond.static y).before args s = true)
    (hP : va_P D vwCl ws H) (hD : va_D A ws) (hK : va_K D vwCl (tys9 cI cZ cJ) s) (hN : NM s) (hS : va_S A s.heap H locs) (hA : ∀ q : Nat, s.heap.size ≤ q → A q)  (hn : As.length = n) (hsize : ls.size = nL) (hst : st0 = As.reverse ++ rest) (hW : (rest.map fun v => v.category).sum ≤ 8) (hdg : decode cc pc = .ok (.invokestatic index, 3)) (hf : cells ≤ R.cells ∧ slots ≤ R.slots)
    (isC isR : List Nat) (hnd : va_nd isC = true) (hC : isC.map (fun i => ws[i]?) = Wc.map some) (h1 : isC.map (fun i => W2[i]?) = W1.map some) (hR : ∀ i ∈ isR, W2[i]? = ws[i]?) (hfst : W2.map (fun q => q.1) = ws.map (fun q => q.1)) (k : Nat) (hlen : W2.length = k) (hall : ∀ i, i < k → i ∈ isC ∨ i ∈ isR) (hdis : ∀ i ∈ isR, i ∉ isC)
    (kk : ∀ (H : Heap) (locs : List Loc), va_P D vwCl W2 H → va_D A W2 → va_S A s.heap H locs → W p l e R s m args below meth c H locs cells slots Q (F0 m (pc + 3) ls rest)) : W p l e R s m args below meth c H locs cells slots Q (F0 m pc ls st0) := by
  have hPc : va_P D vwCl Wc H := wd_cut hP isC hC
  have hDc : va_D A Wc := hD.sub isC hnd hC
  exact mv_call (va_runS (As := As) (rest := rest) S hM cw (mb_in hPc hK hN hDc As) rfl hn hsize hst (lv_room hW) hdg hf) hP hD hS hA isC isR hC h1 hR hfst k hlen hall hdis kk
end BaseCalls

abbrev cT (hT hB hV : Nat) (a : Nat → Int32) : Nat × va_E := (hT, .inr (1, [.ref hB, .ref hV, .int (a 0), .int (a 1), .int (a 2), .int (a 3), .int (a 4), .int (a 5), .int (a 6), .int (a 7), .int (a 8), .int (a 9), .int (a 10), .int (a 11)]))
abbrev cB (hB hG : Nat) (tr : Int32) : Nat × va_E := (hB, .inr (0, [.ref hG, .int tr]))
abbrev cM (hM hO hW hY : Nat) (th : Int32) (a : Nat → Int32) : Nat × va_E := (hM, .inr (2, [.int th, .int (a 0), .int (a 2), .int (a 3), .int (a 4), .int (a 5), .ref hO, .int (a 6), .int (a 1), .int (a 7), .ref hW, .int (a 8), .int (a 11), .int (a 9), .int (a 10), .ref hY]))
abbrev cA (c : ClassId) (h n : Nat) (f : Nat → Int32) : Nat × va_E := (h, .inl (c, n, .inl f))
abbrev cL (c : ClassId) (h n : Nat) (f : Nat → Int64) : Nat × va_E := (h, .inl (c, n, .inr (.inl f)))
section BaseArr
variable {p : Program} {l : Launch} {e : Env} {R : Room} {s : State} {m : MethodId} {args : Array Value} {below : List Frame} {meth : Method} {c : Code} {cc : ByteArray} {H H0 : Heap} {locs : List Loc} {cells slots : Nat} {Q : State → Prop} {pc : Nat} {ls : Array Slot} {v : Int32} {D : va_G} {ws : va_W} {tys : List (ClassId × FieldType)} {A : Nat → Prop} {a j n : Nat} {rest : List Value}
theorem q_iald (hx : p.tables.exec = Jvm.exec) (hb : c.code = cc) (hK : va_K D vwCl tys s) (hP : va_P D vwCl ws H) (q0 t0 : Nat) {cA : ClassId} {f : Nat → Int32} (ha : ws[q0]? = some (a, .inl (cA, n, .inl f))) (ht : tys[t0]? = some (cA, .int)) (hj : j < n) (hn : n ≤ 65536) (hv : f j = v) (hdg : decode cc pc = .ok (.iaload, 1))
    (kk : W p l e R s m args below meth c H locs cells slots Q (F0 m (pc + 1) ls (.int v :: rest))) : W p l e R s m args below meth c H locs cells slots Q (F0 m pc ls (.int (nI j) :: .ref a :: rest)) := by
  have h2 : j < 2 ^ 31 := by omega
  refine va_iald hx hb hK hP q0 t0 ha ht (vp_in_nI hj (by omega)) hdg ?_
  rw [nI_clamp h2, hv]
  exact kk
theorem q_zald (hx : p.tables.exec = Jvm.exec) (hb : c.code = cc) (hK : va_K D vwCl tys s) (hP : va_P D vwCl ws H) (q0 t0 : Nat) {cA : ClassId} {f : Nat → Int32} (ha : ws[q0]? = some (a, .inl (cA, n, .inl f))) (ht : tys[t0]? = some (cA, .boolean)) (hj : j < n) (hn : n ≤ 65536) (hv : f j = v) (hdg : decode cc pc = .ok (.baload, 1))
    (kk : W p l e R s m args below meth c H locs cells slots Q (F0 m (pc + 1) ls (.int v :: rest))) : W p l e R s m args below meth c H locs cells slots Q (F0 m pc ls (.int (nI j) :: .ref a :: rest)) := by
  have h2 : j < 2 ^ 31 := by omega
  refine va_zald hx hb hK hP q0 t0 ha ht (vp_in_nI hj (by omega)) hdg ?_
  rw [nI_clamp h2, hv]
  exact kk
theorem q_iast (hx : p.tables.exec = Jvm.exec) (hb : c.code = cc) (hK : va_K D vwCl tys s) (hP : va_P D vwCl ws H) (hD : va_D A ws) (hS : va_S A H0 H locs) (q0 t0 : Nat) {cA : ClassId} {f : Nat → Int32} (ha : ws[q0]? = some (a, .inl (cA, n, .inl f))) (ht : tys[t0]? = some (cA, .int)) (hj : j < n) (hn : n ≤ 65536) (hdg : decode cc pc = .ok (.iastore, 1))
    (kk : ∀ (H1 : Heap) (locs1 : List Loc), va_P D vwCl (ws.set q0 (a, .inl (cA, n, .inl (upd f j v)))) H1 → va_D A (ws.set q0 (a, .inl (cA, n, .inl (upd f j v)))) → va_S A H0 H1 locs1 → W p l e R s m args below meth c H1 locs1 cells slots Q (F0 m (pc + 1) ls rest)) : W p l e R s m args below meth c H locs cells slots Q (F0 m pc ls (.int v :: .int (nI j) :: .ref a :: rest)) := by
  have h2 : j < 2 ^ 31 := by omega
  refine va_iast hx hb hK hP hD hS q0 t0 ha ht (vp_in_nI hj (by omega)) hdg ?_
  rw [nI_clamp h2]
  exact kk
theorem q_zast (hx : p.tables.exec = Jvm.exec) (hb : c.code = cc) (hK : va_K D vwCl tys s) (hP : va_P D vwCl ws H) (hD : va_D A ws) (hS : va_S A H0 H locs) (q0 t0 : Nat) {cA : ClassId} {f : Nat → Int32} (ha : ws[q0]? = some (a, .inl (cA, n, .inl f))) (ht : tys[t0]? = some (cA, .boolean)) (hj : j < n) (hn : n ≤ 65536) (hdg : decode cc pc = .ok (.bastore, 1))
    (kk : ∀ (H1 : Heap) (locs1 : List Loc), va_P D vwCl (ws.set q0 (a, .inl (cA, n, .inl (upd f j (vp_nar .boolean v))))) H1 → va_D A (ws.set q0 (a, .inl (cA, n, .inl (upd f j (vp_nar .boolean v))))) → va_S A H0 H1 locs1 → W p l e R s m args below meth c H1 locs1 cells slots Q (F0 m (pc + 1) ls rest)) : W p l e R s m args below meth c H locs cells slots Q (F0 m pc ls (.int v :: .int (nI j) :: .ref a :: rest)) := by
  have h2 : j < 2 ^ 31 := by omega
  refine va_zast hx hb hK hP hD hS q0 t0 ha ht (vp_in_nI hj (by omega)) hdg ?_
  rw [nI_clamp h2]
  exact kk
/-- a loop that reads: lv i says what the locals hold at its head with i steps done -/
theorem loop_R {nL h : Nat} (N : Nat) (lv : Nat → List (Nat × Value)) (I : Nat → Prop)
    (step : ∀ i, i ≤ N → I i → (i < N → I (i + 1) → ∀ ls : Array Slot, lv_has ls nL (lv (i + 1)) → W p l e R s m args below meth c H locs cells slots Q (F0 m h ls [])) → ∀ ls : Array Slot, lv_has ls nL (lv i) → W p l e R s m args below meth c H locs cells slots Q (F0 m h ls [])) :
    ∀ i, i ≤ N → I i → ∀ ls : Array Slot, lv_has ls nL (lv i) → W p l e R s m args below meth c H locs cells slots Q (F0 m h ls []) := by
  have key : ∀ k i, i + k = N → I i → ∀ ls : Array Slot, lv_has ls nL (lv i) → W p l e R s m args below meth c H locs cells slots Q (F0 m h ls []) := by
    intro k
    induction k with
    | zero => intro i hi hI; exact step i (by omega) hI (fun h9 _ => absurd h9 (by omega))
    | succ k ih => intro i hi hI; exact step i (by omega) hI (fun _ hI1 => ih (i + 1) (by omega) hI1)
  intro i hi hI
  exact key (N - i) i (by omega) hI
/-- a loop that changes the world: wd i is the world at its head with i steps done -/
theorem loop_M {nL h : Nat} (N : Nat) (lv : Nat → List (Nat × Value)) (wd : Nat → va_W) (I : Nat → Prop)
    (step : ∀ i, i ≤ N → I i → (i < N → I (i + 1) → ∀ (H : Heap) (locs : List Loc) (ls : Array Slot), va_P D vwCl (wd (i + 1)) H → va_D A (wd (i + 1)) → va_S A s.heap H locs → lv_has ls nL (lv (i + 1)) → W p l e R s m args below meth c H locs cells slots Q (F0 m h ls [])) → ∀ (H : Heap) (locs : List Loc) (ls : Array Slot), va_P D vwCl (wd i) H → va_D A (wd i) → va_S A s.heap H locs → lv_has ls nL (lv i) → W p l e R s m args below meth c H locs cells slots Q (F0 m h ls [])) :
    ∀ i, i ≤ N → I i → ∀ (H : Heap) (locs : List Loc) (ls : Array Slot), va_P D vwCl (wd i) H → va_D A (wd i) → va_S A s.heap H locs → lv_has ls nL (lv i) → W p l e R s m args below meth c H locs cells slots Q (F0 m h ls []) := by
  have key : ∀ k i, i + k = N → I i → ∀ (H : Heap) (locs : List Loc) (ls : Array Slot), va_P D vwCl (wd i) H → va_D A (wd i) → va_S A s.heap H locs → lv_has ls nL (lv i) → W p l e R s m args below meth c H locs cells slots Q (F0 m h ls []) := by
    intro k
    induction k with
    | zero => intro i hi hI; exact step i (by omega) hI (fun h9 _ => absurd h9 (by omega))
    | succ k ih => intro i hi hI; exact step i (by omega) hI (fun _ hI1 => ih (i + 1) (by omega) hI1)
  intro i hi hI
  exact key (N - i) i (by omega) hI
end BaseArr
