/-! the constructors: objects and arrays made anew -/
def Nv {α : Type} (l : Launch) (D : va_G) (cI cZ cJ : ClassId) (y : MethodName) (ws : List Cond) (fr lo mc ms sz : Nat) (av : List Value) (W0 : va_W) (W1 : α → va_W) : Prop := Met l y ws { frames := fr, cells := mc, slots := ms, locals := lo } (va_Pc av (MB D cI cZ cJ W0 sz)) (va_Qv (fun (_ : α) => True) (fun u t => va_P D vwCl (W1 u) t.heap ∧ va_D (va_A W0 sz) (W1 u)) (va_A W0 sz)) mc ms (va_A W0 sz)
section Cons
variable {l : Launch} {D : va_G} {cI cZ cJ : ClassId} {y : MethodName} {ws ws' : List Cond} {fr lo mc ms : Nat} {av : List Value} {cc : ByteArray} {maxL : Nat}
theorem nv_of {α : Type} {W0 : va_W} {W1 : α → va_W} {sz : Nat} (hy : plainName y.cls = true) (hw : ws = Cond.code y cc maxL none :: ws') (hav : (lg_sl av).length ≤ maxL)
    (body : ∀ (p : Program) (e : Env) (s : State) (m : MethodId) (below : List Frame) (meth : Method) (c : Code) (ls : Array Slot) (A : Nat → Prop), p.tables.exec = Jvm.exec → c.code = cc → meth.sig.returnType = none → c.maxLocals = maxL → (∀ w ∈ ws, w.before av.toArray s = true) → s.vm.findClass y.cls = some m.cls → meth.locks = false → (meth.name = y.name) → va_P D vwCl W0 s.heap → va_K D vwCl (tys9 cI cZ cJ) s → NM s → va_D A W0 → (∀ q : Nat, s.heap.size ≤ q → A q) → va_S A s.heap s.heap [] → lv_has ls maxL (lv_args 0 av) →
      W p l e { frames := fr, cells := mc, slots := ms, locals := lo } s m av.toArray below meth c s.heap [] 0 0 (MQ below (va_Qv (fun (_ : α) => True) (fun u t => va_P D vwCl (W1 u) t.heap ∧ va_D A (W1 u)) A) av.toArray s mc ms A) (F0 m 0 ls [])) : Nv l D cI cZ cJ y ws fr lo mc ms sz av W0 W1 := by
  refine Met.ofW (cc := cc) (maxL := maxL) (ret := none) hy hw ?_
  intro p e s m args below meth c s₁ B hml hv
  obtain ⟨rfl, hsz, hP, hK, hN, hD0⟩ := hv
  subst hsz
  have hl := lv_entry av (n := maxL) hav
  rw [lg_entry_eq]
  exact body p e s m below meth c _ _ B.exec B.bytes B.returns hml (atoms_spec (ws := ws) B.pre) (findClass_of_methodNamed B.named) B.notSynchronized (name_of_methodNamed B.named B.method).1 hP hK hN (hD0.self (sz := s.heap.size)) (fun q h => Or.inr h) va_S.rf hl
variable {p : Program} {e : Env} {R : Room} {s : State} {m : MethodId} {args : Array Value} {below : List Frame} {meth : Method} {c : Code} {H H0 : Heap} {locs : List Loc} {cells slots pc : Nat} {ls : Array Slot} {Q : State → Prop} {W0 : va_W} {A : Nat → Prop} {rest : List Value}
theorem nv_ret {α : Type} {W1 : α → va_W} (u : α) (hx : p.tables.exec = Jvm.exec) (hb : c.code = cc) (hr : meth.sig.returnType = none) (hlocks : meth.locks = false) (hS : va_S A s.heap H locs) (hP : va_P D vwCl (W1 u) H) (hD : va_D A (W1 u)) (hdg : decode cc pc = .ok (.return_, 1)) : W p l e R s m args below meth c H locs mc ms (MQ below (va_Qv (fun (_ : α) => True) (fun u t => va_P D vwCl (W1 u) t.heap ∧ va_D A (W1 u)) A) args s mc ms A) (F0 m pc ls []) :=
  W.vret hx hb hr (fun t ht _ => ⟨⟨u, rfl, trivial, by show va_P D vwCl (W1 u) t.heap ∧ va_D A (W1 u); rw [ht]; exact ⟨hP, hD⟩⟩, hS.F ht⟩) hS.2.2 hdg hlocks
theorem q_newa (hexec : p.tables.exec = Jvm.exec) (hb : c.code = cc) {atype : ArrayType} (harr : (Cond.arrayClass (newarray.typeOf atype)).before args s = true) {ty : FieldType} (hty : newarray.typeOf atype = ty) (hK : va_K D vwCl (tys9 cI cZ cJ) s) (t0 : Nat) {cT9 : ClassId} (ht : (tys9 cI cZ cJ)[t0]? = some (cT9, ty)) (hun : ∀ c1 c2 : ClassId, va_RA s c1 ty → va_RA s c2 ty → c1 = c2) (hP : va_P D vwCl W0 H) (hD : va_D A W0) (hS : va_S A H0 H locs) (hA : ∀ q, H0.size ≤ q → A q)
    {n : Int32} {N' : Nat} {a0 : vp_A} (ha : ∀ cA : ClassId, vp_cell cA a0 = arrV cA N' (fun _ => defaultValue ty)) (hn : ¬ n < 0) (hN : n.toNatClampNeg = N') (hbytes : N' * componentBytes ty ≤ 536870912) (hcells : cells + 1 ≤ R.cells) (hslots : slots + N' ≤ R.slots) (hdg : decode cc pc = .ok (.newarray atype, 2))
    (kk : ∀ (q : Nat) (H1 : Heap), va_P D vwCl (W0 ++ [(q, .inl (cT9, a0))]) H1 → va_D A (W0 ++ [(q, .inl (cT9, a0))]) → va_S A H0 H1 locs → W p l e R s m args below meth c H1 locs (cells + 1) (slots + N') Q (F0 m (pc + 2) ls (.ref q :: rest))) : W p l e R s m args below meth c H locs cells slots Q (F0 m pc ls (.int n :: rest)) := by
  refine va_newa hexec hb harr hty hK hP hD hS hA ha hn hN hbytes hcells hslots hdg (fun q cA H1 hK1 hP1 hD1 hS1 => ?_)
  have e : cA = cT9 := hun cA cT9 (hK1.2 1 (cA, ty) rfl).2 (hK.2 t0 _ ht).2
  subst e
  exact kk q H1 hP1 hD1 hS1
end Cons
theorem un_I {s : State} (c1 c2 : ClassId) (h1 : va_RA s c1 .int) (h2 : va_RA s c2 .int) : c1 = c2 := Option.some.inj ((show s.vm.findClass _ = some c1 from h1).symm.trans (show s.vm.findClass _ = some c2 from h2))
theorem in_X0_init_X0 : ∀ w ∈ wsX00, w ∈ wsX0_init := fun _ h => List.mem_cons_of_mem _ (List.mem_append_right _ h)
theorem in_X1_init_X0 : ∀ w ∈ wsX00, w ∈ wsX1_init := fun _ h => List.mem_cons_of_mem _ (List.mem_append_left _ (List.mem_append_right _ h))
theorem in_X1_init_X1 : ∀ w ∈ wsX10, w ∈ wsX1_init := fun _ h => List.mem_cons_of_mem _ (List.mem_append_right _ h)
def aN1 : Nat → Int32 := upd (upd (upd (upd (fun _ => 0) 8 (-1)) 9 (-1)) 10 (-1)) 11 (-1)
def z32 : Nat → Int32 := fun _ => 0
theorem z32_I (n : Nat) (cA : ClassId) : vp_cell cA (n, .inl z32) = arrV cA n (fun _ => defaultValue .int) := rfl
theorem n1120 : ¬ (1120 : Int32) < 0 ∧ (1120 : Int32).toNatClampNeg = 1120 ∧ 1120 * componentBytes .int ≤ 536870912 := by decide
theorem n8I : ¬ (8 : Int32) < 0 ∧ (8 : Int32).toNatClampNeg = 8 ∧ 8 * componentBytes .int ≤ 536870912 := by decide
set_option maxHeartbeats 1000000 in
set_option maxRecDepth 100000 in
/-- a new book: a row of zeros -/
theorem c_X0_init (l : Launch) (D : va_G) (cI cZ cJ : ClassId) (sz hB : Nat) : Nv (α := Nat) l D cI cZ cJ yX0_init wsX0_init 1 30 1 1120 sz [.ref hB] [(hB, .inr (0, [.null, .int 0]))] (fun hG => [cB hB hG 0, cA cI hG 1120 z32]) := by
  refine nv_of (cc := cX0_init) (maxL := 1) (by decide) rfl (Nat.le_of_ble_eq_true rfl) ?_
  intro p e s m below meth c ls A hx hb hr hml hts hown hlocks hin hP hK hN hD hA hS hl
  have hl : lv_has ls 1 [(0, .ref hB)] := hl
  refine lv_aload_n hx hb dX0_init_0 rfl (lv_at hl 0 rfl) ?_
  refine W.objInit hx hb hown (hts (.methodLink RX0 3 objectInit) (List.mem_of_getElem? (i := 1) rfl)) (hts (.instanceMethod objectInit) (List.mem_of_getElem? (i := 2) rfl)) (hts _ (List.mem_of_getElem? (i := 3) rfl)) rfl (by rw [hml]; exact hl.1) rfl dX0_init_1 (Nat.le_of_ble_eq_true rfl) (Nat.le_of_ble_eq_true rfl) ?_
  refine W.eq (g2 := F0 m 4 ls []) rfl ?_
  refine lv_aload_n hx hb dX0_init_4 rfl (lv_at hl 0 rfl) ?_
  refine lv_sipush (v := 1120) hx hb dX0_init_5 (by decide) ?_
  refine q_newa (atype := .int) (ty := .int) (a0 := (1120, .inl z32)) (N' := 1120) hx hb (hts (.arrayClass .int) (List.mem_of_getElem? (i := 4) rfl)) rfl hK 0 rfl un_I hP hD hS hA (z32_I 1120) n1120.1 n1120.2.1 n1120.2.2 (Nat.le_of_ble_eq_true rfl) (Nat.le_of_ble_eq_true rfl) dX0_init_8 (fun hG H hP hD hS => ?_)
  have hP : va_P D vwCl [(hB, .inr (0, [.null, .int 0])), cA cI hG 1120 z32] H := hP
  have hD : va_D A [(hB, .inr (0, [.null, .int 0])), cA cI hG 1120 z32] := hD
  refine va_putF (D := D) (cl := vwCl) (ci := 0) (v := .ref hG) (ty := .array .int) (C := RX0) (T := TX0) (N := 2) hx hb hts in_X0_init_X0 tyX0 tyX0_ok nmX0 hown hK hP hD hS 0 rfl rfl 0 (by decide) (hts (.fieldLink RX0 11 "WitchTrial$Book" "pages" "[I") (List.mem_of_getElem? (i := 5) rfl)) (fun _ h9 => h9) rfl hin rfl (by decide +kernel) rfl rfl (Nat.le_of_ble_eq_true rfl) dX0_init_10 (fun H locs hP hD hS => ?_)
  have hP : va_P D vwCl [cB hB hG 0, cA cI hG 1120 z32] H := hP
  have hD : va_D A [cB hB hG 0, cA cI hG 1120 z32] := hD
  exact nv_ret hG hx hb hr hlocks hS hP hD dX0_init_13
set_option maxHeartbeats 1000000 in
set_option maxRecDepth 100000 in
/-- a new WitchTrial: its book, and votes of zeros -/
theorem c_X1_init (l : Launch) (D : va_G) (cI cZ cJ : ClassId) (sz hT : Nat) : Nv (α := Nat × Nat × Nat) l D cI cZ cJ yX1_init wsX1_init 3 60 3 1130 sz [.ref hT] [(hT, .inr (1, [.null, .null, .int 0, .int 0, .int 0, .int 0, .int 0, .int 0, .int 0, .int 0, .int 0, .int 0, .int 0, .int 0]))] (fun u => [cT hT u.1 u.2.2 aN1, cB u.1 u.2.1 0, cA cI u.2.1 1120 z32, cA cI u.2.2 8 z32]) := by
  refine nv_of (cc := cX1_init) (maxL := 1) (by decide) rfl (Nat.le_of_ble_eq_true rfl) ?_
  intro p e s m below meth c ls A hx hb hr hml hts hown hlocks hin hP hK hN hD hA hS hl
  have hl : lv_has ls 1 [(0, .ref hT)] := hl
  refine lv_aload_n hx hb dX1_init_0 rfl (lv_at hl 0 rfl) ?_
  refine W.objInit hx hb hown (hts (.methodLink RX1 3 objectInit) (List.mem_of_getElem? (i := 1) rfl)) (hts (.instanceMethod objectInit) (List.mem_of_getElem? (i := 2) rfl)) (hts _ (List.mem_of_getElem? (i := 3) rfl)) rfl (by rw [hml]; exact hl.1) rfl dX1_init_1 (Nat.le_of_ble_eq_true rfl) (Nat.le_of_ble_eq_true rfl) ?_
  refine W.eq (g2 := F0 m 4 ls []) rfl ?_
  refine lv_aload_n hx hb dX1_init_4 rfl (lv_at hl 0 rfl) ?_
  refine va_new (ci := 0) (fs := [.null, .int 0]) (C := RX0) (T := TX0) (N := 2) hx hb hts in_X1_init_X0 tyX0 tyX0_ok hown (hts (.classLink RX1 9 RX0) (List.mem_of_getElem? (i := 4) rfl)) (hts (.instantiable RX0 2) (List.mem_of_getElem? (i := 5) rfl)) (hts (.initialized RX0) (List.mem_of_getElem? (i := 6) rfl)) hK hP hD hS hA rfl (fun j hj => by rcases (show j = 0 ∨ j = 1 by omega) with rfl | rfl <;> rfl) (Nat.le_of_ble_eq_true rfl) (Nat.le_of_ble_eq_true rfl) dX1_init_5 (fun hB H hP hD hS => ?_)
  have hP : va_P D vwCl [(hT, .inr (1, [.null, .null, .int 0, .int 0, .int 0, .int 0, .int 0, .int 0, .int 0, .int 0, .int 0, .int 0, .int 0, .int 0])), (hB, .inr (0, [.null, .int 0]))] H := hP
  have hD : va_D A [(hT, .inr (1, [.null, .null, .int 0, .int 0, .int 0, .int 0, .int 0, .int 0, .int 0, .int 0, .int 0, .int 0, .int 0, .int 0])), (hB, .inr (0, [.null, .int 0]))] := hD
  refine lv_dup hx hb dX1_init_8 rfl ?_
  have hPc := hP.sub (ws' := [(hB, .inr (0, [.null, .int 0]))]) [1] rfl
  have hDc := hD.sub (ws' := [(hB, .inr (0, [.null, .int 0]))]) [1] (by decide) rfl
  have hFc := va_free (wc := [(hB, .inr (0, [.null, .int 0]))]) hD hS hA [1] rfl
  refine va_callv (va_runIN (As := []) (rest := [.ref hB, .ref hT]) ⟨hx, hb, hml, hown, hts⟩ (c_X0_init l D cI cZ cJ H.size hB) ⟨va_cnB 0 hts gX1_init_X0_init_n11 rfl rfl rfl (hN.link 0 rfl) (hts (.initialized RX0) (List.mem_of_getElem? (i := 6) rfl)) (by decide +kernel) ⟨Nat.le_of_ble_eq_true rfl, Nat.le_of_ble_eq_true rfl⟩, rfl, hts (.instanceMethod yX0_init) (List.mem_of_getElem? (i := 15) rfl)⟩ (mb_in hPc hK hN hDc [.ref hB]) rfl rfl hl.1 rfl (lv_room (Nat.le_of_ble_eq_true rfl)) dX1_init_9 ⟨Nat.le_of_ble_eq_true rfl, Nat.le_of_ble_eq_true rfl⟩) hS (fun q _ h => hFc q h) hFc (fun hG t H1 locs ht hvm hw hB9 hz1 hk1 hS => ?_)
  obtain ⟨hP1, hD1⟩ := hB9
  rw [ht] at hP1
  obtain ⟨hP, hD⟩ := va_join (wr := [(hT, .inr (1, [.null, .null, .int 0, .int 0, .int 0, .int 0, .int 0, .int 0, .int 0, .int 0, .int 0, .int 0, .int 0, .int 0]))]) (w1 := [cB hB hG 0, cA cI hG 1120 z32]) hP hD [1] [0] rfl rfl (by decide) (by decide) hk1 hFc hP1 hD1
  generalize H1 = H at hP hS ⊢
  have hP : va_P D vwCl [(hT, .inr (1, [.null, .null, .int 0, .int 0, .int 0, .int 0, .int 0, .int 0, .int 0, .int 0, .int 0, .int 0, .int 0, .int 0])), cB hB hG 0, cA cI hG 1120 z32] H := hP
  have hD : va_D A [(hT, .inr (1, [.null, .null, .int 0, .int 0, .int 0, .int 0, .int 0, .int 0, .int 0, .int 0, .int 0, .int 0, .int 0, .int 0])), cB hB hG 0, cA cI hG 1120 z32] := hD
  refine va_putF (D := D) (cl := vwCl) (ci := 1) (v := .ref hB) (ty := .object "WitchTrial$Book") (C := RX1) (T := TX1) (N := 14) hx hb hts in_X1_init_X1 tyX1 tyX1_ok nmX1 hown hK hP hD hS 0 rfl rfl 0 (by decide) (hts (.fieldLink RX1 12 "WitchTrial" "book" "LWitchTrial$Book;") (List.mem_of_getElem? (i := 7) rfl)) (fun _ h9 => h9) rfl hin rfl (by decide +kernel) rfl rfl (Nat.le_of_ble_eq_true rfl) dX1_init_12 (fun H locs hP hD hS => ?_)
  have hP : va_P D vwCl [(hT, .inr (1, [.ref hB, .null, .int 0, .int 0, .int 0, .int 0, .int 0, .int 0, .int 0, .int 0, .int 0, .int 0, .int 0, .int 0])), cB hB hG 0, cA cI hG 1120 z32] H := hP
  have hD : va_D A [(hT, .inr (1, [.ref hB, .null, .int 0, .int 0, .int 0, .int 0, .int 0, .int 0, .int 0, .int 0, .int 0, .int 0, .int 0, .int 0])), cB hB hG 0, cA cI hG 1120 z32] := hD
  refine lv_aload_n hx hb dX1_init_15 rfl (lv_at hl 0 rfl) ?_
  refine lv_bipush (v := 8) hx hb dX1_init_16 (by decide) ?_
  refine q_newa (atype := .int) (ty := .int) (a0 := (8, .inl z32)) (N' := 8) hx hb (hts (.arrayClass .int) (List.mem_of_getElem? (i := 8) rfl)) rfl hK 0 rfl un_I hP hD hS hA (z32_I 8) n8I.1 n8I.2.1 n8I.2.2 (Nat.le_of_ble_eq_true rfl) (Nat.le_of_ble_eq_true rfl) dX1_init_18 (fun hV H hP hD hS => ?_)
  have hP : va_P D vwCl [(hT, .inr (1, [.ref hB, .null, .int 0, .int 0, .int 0, .int 0, .int 0, .int 0, .int 0, .int 0, .int 0, .int 0, .int 0, .int 0])), cB hB hG 0, cA cI hG 1120 z32, cA cI hV 8 z32] H := hP
  have hD : va_D A [(hT, .inr (1, [.ref hB, .null, .int 0, .int 0, .int 0, .int 0, .int 0, .int 0, .int 0, .int 0, .int 0, .int 0, .int 0, .int 0])), cB hB hG 0, cA cI hG 1120 z32, cA cI hV 8 z32] := hD
  refine va_putF (D := D) (cl := vwCl) (ci := 1) (v := .ref hV) (ty := .array .int) (C := RX1) (T := TX1) (N := 14) hx hb hts in_X1_init_X1 tyX1 tyX1_ok nmX1 hown hK hP hD hS 0 rfl rfl 1 (by decide) (hts (.fieldLink RX1 16 "WitchTrial" "voteOf" "[I") (List.mem_of_getElem? (i := 9) rfl)) (fun _ h9 => h9) rfl hin rfl (by decide +kernel) rfl rfl (Nat.le_of_ble_eq_true rfl) dX1_init_20 (fun H locs hP hD hS => ?_)
  have hP : va_P D vwCl [cT hT hB hV z32, cB hB hG 0, cA cI hG 1120 z32, cA cI hV 8 z32] H := hP
  have hD : va_D A [cT hT hB hV z32, cB hB hG 0, cA cI hG 1120 z32, cA cI hV 8 z32] := hD
  refine lv_aload_n hx hb dX1_init_23 rfl (lv_at hl 0 rfl) ?_
  refine lv_iconst (v := 0) hx hb dX1_init_24 (by decide) ?_
  refine va_put (D := D) (cl := vwCl) (ci := 1) (v := .int 0) (ty := .int) (C := RX1) (T := TX1) (N := 14) hx hb hts in_X1_init_X1 tyX1 tyX1_ok nmX1 hown hK hP hD hS 0 rfl rfl 2 (by decide) (hts (.fieldLink RX1 20 "WitchTrial" "phase" "I") (List.mem_of_getElem? (i := 10) rfl)) (fun _ h9 => h9) rfl (by decide +kernel) rfl rfl (Nat.le_of_ble_eq_true rfl) dX1_init_25 (fun H locs hP hD hS => ?_)
  have hP : va_P D vwCl [cT hT hB hV z32, cB hB hG 0, cA cI hG 1120 z32, cA cI hV 8 z32] H := hP
  have hD : va_D A [cT hT hB hV z32, cB hB hG 0, cA cI hG 1120 z32, cA cI hV 8 z32] := hD
  refine lv_aload_n hx hb dX1_init_28 rfl (lv_at hl 0 rfl) ?_
  refine lv_iconst (v := -1) hx hb dX1_init_29 (by decide) ?_
  refine va_put (D := D) (cl := vwCl) (ci := 1) (v := .int (-1)) (ty := .int) (C := RX1) (T := TX1) (N := 14) hx hb hts in_X1_init_X1 tyX1 tyX1_ok nmX1 hown hK hP hD hS 0 rfl rfl 10 (by decide) (hts (.fieldLink RX1 24 "WitchTrial" "protectChoice" "I") (List.mem_of_getElem? (i := 11) rfl)) (fun _ h9 => h9) rfl (by decide +kernel) rfl rfl (Nat.le_of_ble_eq_true rfl) dX1_init_30 (fun H locs hP hD hS => ?_)
  have hP : va_P D vwCl [cT hT hB hV (upd z32 8 (-1)), cB hB hG 0, cA cI hG 1120 z32, cA cI hV 8 z32] H := hP
  have hD : va_D A [cT hT hB hV (upd z32 8 (-1)), cB hB hG 0, cA cI hG 1120 z32, cA cI hV 8 z32] := hD
  refine lv_aload_n hx hb dX1_init_33 rfl (lv_at hl 0 rfl) ?_
  refine lv_iconst (v := -1) hx hb dX1_init_34 (by decide) ?_
  refine va_put (D := D) (cl := vwCl) (ci := 1) (v := .int (-1)) (ty := .int) (C := RX1) (T := TX1) (N := 14) hx hb hts in_X1_init_X1 tyX1 tyX1_ok nmX1 hown hK hP hD hS 0 rfl rfl 11 (by decide) (hts (.fieldLink RX1 27 "WitchTrial" "attackChoice" "I") (List.mem_of_getElem? (i := 12) rfl)) (fun _ h9 => h9) rfl (by decide +kernel) rfl rfl (Nat.le_of_ble_eq_true rfl) dX1_init_35 (fun H locs hP hD hS => ?_)
  have hP : va_P D vwCl [cT hT hB hV (upd (upd z32 8 (-1)) 9 (-1)), cB hB hG 0, cA cI hG 1120 z32, cA cI hV 8 z32] H := hP
  have hD : va_D A [cT hT hB hV (upd (upd z32 8 (-1)) 9 (-1)), cB hB hG 0, cA cI hG 1120 z32, cA cI hV 8 z32] := hD
  refine lv_aload_n hx hb dX1_init_38 rfl (lv_at hl 0 rfl) ?_
  refine lv_iconst (v := -1) hx hb dX1_init_39 (by decide) ?_
  refine va_put (D := D) (cl := vwCl) (ci := 1) (v := .int (-1)) (ty := .int) (C := RX1) (T := TX1) (N := 14) hx hb hts in_X1_init_X1 tyX1 tyX1_ok nmX1 hown hK hP hD hS 0 rfl rfl 12 (by decide) (hts (.fieldLink RX1 30 "WitchTrial" "lookChoice" "I") (List.mem_of_getElem? (i := 13) rfl)) (fun _ h9 => h9) rfl (by decide +kernel) rfl rfl (Nat.le_of_ble_eq_true rfl) dX1_init_40 (fun H locs hP hD hS => ?_)
  have hP : va_P D vwCl [cT hT hB hV (upd (upd (upd z32 8 (-1)) 9 (-1)) 10 (-1)), cB hB hG 0, cA cI hG 1120 z32, cA cI hV 8 z32] H := hP
  have hD : va_D A [cT hT hB hV (upd (upd (upd z32 8 (-1)) 9 (-1)) 10 (-1)), cB hB hG 0, cA cI hG 1120 z32, cA cI hV 8 z32] := hD
  refine lv_aload_n hx hb dX1_init_43 rfl (lv_at hl 0 rfl) ?_
  refine lv_iconst (v := -1) hx hb dX1_init_44 (by decide) ?_
  refine va_put (D := D) (cl := vwCl) (ci := 1) (v := .int (-1)) (ty := .int) (C := RX1) (T := TX1) (N := 14) hx hb hts in_X1_init_X1 tyX1 tyX1_ok nmX1 hown hK hP hD hS 0 rfl rfl 13 (by decide) (hts (.fieldLink RX1 33 "WitchTrial" "protectedLastNight" "I") (List.mem_of_getElem? (i := 14) rfl)) (fun _ h9 => h9) rfl (by decide +kernel) rfl rfl (Nat.le_of_ble_eq_true rfl) dX1_init_45 (fun H locs hP hD hS => ?_)
  have hP : va_P D vwCl [cT hT hB hV aN1, cB hB hG 0, cA cI hG 1120 z32, cA cI hV 8 z32] H := hP
  have hD : va_D A [cT hT hB hV aN1, cB hB hG 0, cA cI hG 1120 z32, cA cI hV 8 z32] := hD
  exact nv_ret (hB, hG, hV) hx hb hr hlocks hS hP hD dX1_init_48
