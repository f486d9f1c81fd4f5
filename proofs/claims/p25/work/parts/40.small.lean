set_option maxHeartbeats 1000000 in
theorem c_L_low (l : Launch) (D : va_G) (cI cZ cJ : ClassId) (x n : Int32) (hn : ¬ n = 0) : Rd l D cI cZ cJ yL_low wsL_low 0 0 [.int x, .int n] [] (xLow x n) := by
  refine rd_of (by decide) rfl (Nat.le_of_ble_eq_true rfl) (fun p e s m below meth c ls hx hb hr hml hts hown hlocks hP hK hN hl => ?_)
  have hl : lv_has ls 2 [(0, .int x), (1, .int n)] := hl
  refine lv_iload_n hx hb dL_low_0 rfl (lv_at hl 0 rfl) ?_
  refine lv_iconst (v := 1) hx hb dL_low_1 (by decide) ?_
  refine lv_iushr (v := xSh x) hx hb dL_low_2 rfl ?_
  refine lv_iload_n hx hb dL_low_3 rfl (lv_at hl 1 rfl) ?_
  refine lv_irem hx hb dL_low_4 hn ?_
  exact rd_iret hx hb hr hlocks rfl dL_low_5

set_option maxHeartbeats 4000000 in
set_option maxRecDepth 100000 in
theorem c_L_has (l : Launch) (D : va_G) (cI cZ cJ : ClassId) (w q : Int32) : Rd l D cI cZ cJ yL_has wsL_has 0 0 [.int w, .int q] [] (bI (lHas w q)) := by
  refine rd_of (by decide) rfl (Nat.le_of_ble_eq_true rfl) (fun p e s m below meth c ls hx hb hr hml hts hown hlocks hP hK hN hl => ?_)
  have hl : lv_has ls 2 [(0, .int w), (1, .int q)] := hl
  refine lv_iload_n hx hb dL_has_0 rfl (lv_at hl 1 rfl) ?_
  refine lv_if_lt (tgt := 17) hx hb dL_has_1 (by decide) (fun c1 => ?_) (fun c1 => ?_)
  · refine lv_iconst (v := 0) hx hb dL_has_17 (by decide) ?_
    exact rd_zret hx hb hr hlocks (congrArg bI (lHas_n c1)).symm rfl dL_has_18
  · refine lv_iload_n hx hb dL_has_4 rfl (lv_at hl 0 rfl) ?_
    refine lv_iload_n hx hb dL_has_5 rfl (lv_at hl 1 rfl) ?_
    refine lv_ishr hx hb dL_has_6 ?_
    refine lv_iconst (v := 1) hx hb dL_has_7 (by decide) ?_
    refine lv_iand hx hb dL_has_8 ?_
    refine lv_iconst (v := 1) hx hb dL_has_9 (by decide) ?_
    refine lv_icmp_ne (tgt := 17) hx hb dL_has_10 (by decide) (fun c2 => ?_) (fun c2 => ?_)
    · refine lv_iconst (v := 0) hx hb dL_has_17 (by decide) ?_
      exact rd_zret hx hb hr hlocks (congrArg bI (lHas_f c1 c2)).symm rfl dL_has_18
    · refine lv_iconst (v := 1) hx hb dL_has_13 (by decide) ?_
      refine lv_goto (tgt := 18) hx hb dL_has_14 (by decide) ?_
      exact rd_zret hx hb hr hlocks (congrArg bI (lHas_t c1 c2)).symm rfl dL_has_18

set_option maxHeartbeats 1000000 in
theorem c_L_many (l : Launch) (D : va_G) (cI cZ cJ : ClassId) (w : Int32) : Rp l D cI cZ cJ yL_many wsL_many 0 0 [.int w] [] (fun _ => True) := by
  refine rp_of (by decide) rfl (Nat.le_of_ble_eq_true rfl) (fun p e s m below meth c ls hx hb hr hml hts hown hlocks hP hK hN hl => ?_)
  have hl : lv_has ls 3 [(0, .int w)] := hl
  refine lv_iconst (v := 0) hx hb dL_many_0 (by decide) ?_
  refine lv_istore_n (lv' := [(1, .int 0), (0, .int w)]) hx hb dL_many_1 rfl hl (by decide) rfl (fun ls hl => ?_)
  refine lv_iload_n hx hb dL_many_2 rfl (lv_at hl 1 rfl) ?_
  refine lv_istore_n (lv' := [(2, .int w), (1, .int 0), (0, .int w)]) hx hb dL_many_3 rfl hl (by decide) rfl (fun ls hl => ?_)
  refine loop_ME (α := Int32 × Int32) (nL := 3) (h := 4) (fun x => x.1.toBitVec.toNat) (fun x => [(2, .int x.1), (1, .int x.2), (0, .int w)]) (fun x ih ls hl => ?_) (w, 0) ls hl
  obtain ⟨z, n⟩ := x
  have hl : lv_has ls 3 [(2, .int z), (1, .int n), (0, .int w)] := hl
  refine lv_iload_n hx hb dL_many_4 rfl (lv_at hl 0 rfl) ?_
  refine lv_if_eq (tgt := 20) hx hb dL_many_5 (by decide) (fun c1 => ?_) (fun c1 => ?_)
  · refine lv_iload_n hx hb dL_many_20 rfl (lv_at hl 1 rfl) ?_
    exact rp_iret hx hb hr hlocks trivial dL_many_21
  · refine lv_iinc (v := (n + 1)) (lv' := [(1, .int (n + 1)), (2, .int z), (0, .int w)]) hx hb dL_many_8 hl (k := 1) rfl rfl (by decide) rfl (fun ls hl => ?_)
    refine lv_iload_n hx hb dL_many_11 rfl (lv_at hl 1 rfl) ?_
    refine lv_iload_n hx hb dL_many_12 rfl (lv_at hl 1 rfl) ?_
    refine lv_iconst (v := 1) hx hb dL_many_13 (by decide) ?_
    refine lv_isub hx hb dL_many_14 ?_
    refine lv_iand hx hb dL_many_15 ?_
    refine lv_istore_n (lv' := [(2, .int (z &&& (z - 1))), (1, .int (n + 1)), (0, .int w)]) hx hb dL_many_16 rfl hl (by decide) rfl (fun ls hl => ?_)
    refine lv_goto (tgt := 4) hx hb dL_many_17 (by decide) ?_
    exact ih (z &&& (z - 1), n + 1) (many_dn c1) ls hl

set_option maxHeartbeats 4000000 in
set_option maxRecDepth 100000 in
theorem c_L_role (l : Launch) (D : va_G) (cI cZ cJ : ClassId) (w a b q : Int32) : Rp l D cI cZ cJ yL_role wsL_role 1 21 [.int w, .int a, .int b, .int q] [] ((fun r => ∃ k : Nat, k < 4 ∧ r = nI k)) := by
  refine rp_of (by decide) rfl (Nat.le_of_ble_eq_true rfl) (fun p e s m below meth c ls hx hb hr hml hts hown hlocks hP hK hN hl => ?_)
  have hl : lv_has ls 4 [(0, .int w), (1, .int a), (2, .int b), (3, .int q)] := hl
  refine lv_iload_n hx hb dL_role_0 rfl (lv_at hl 0 rfl) ?_
  refine lv_iload_n hx hb dL_role_1 rfl (lv_at hl 3 rfl) ?_
  refine rd_S (As := [.int w, .int q]) (rest := []) ⟨hx, hb, hml, hown, hts⟩ (c_L_has l D cI cZ cJ w q) (va_cwS 2 hts gL_role_L_has rfl rfl rfl (by decide +kernel) ⟨Nat.le_of_ble_eq_true rfl, Nat.le_of_ble_eq_true rfl⟩) (hP.sub (ws' := []) [] rfl) hK hN rfl hl.1 rfl (Nat.le_of_ble_eq_true rfl) dL_role_2 ⟨Nat.le_of_ble_eq_true rfl, Nat.le_of_ble_eq_true rfl⟩ ?_
  refine lv_if_eq (tgt := 12) hx hb dL_role_5 (by decide) (fun c1 => ?_) (fun c1 => ?_)
  · refine lv_iload_n hx hb dL_role_12 rfl (lv_at hl 3 rfl) ?_
    refine lv_iload_n hx hb dL_role_13 rfl (lv_at hl 1 rfl) ?_
    refine lv_icmp_ne (tgt := 21) hx hb dL_role_14 (by decide) (fun c2 => ?_) (fun c2 => ?_)
    · refine lv_iload_n hx hb dL_role_21 rfl (lv_at hl 3 rfl) ?_
      refine lv_iload_n hx hb dL_role_22 rfl (lv_at hl 2 rfl) ?_
      refine lv_icmp_ne (tgt := 30) hx hb dL_role_23 (by decide) (fun c3 => ?_) (fun c3 => ?_)
      · refine lv_iconst (v := 0) hx hb dL_role_30 (by decide) ?_
        exact rp_iret hx hb hr hlocks ⟨0, by decide, by decide⟩ dL_role_31
      · refine lv_iconst (v := 3) hx hb dL_role_26 (by decide) ?_
        refine lv_goto (tgt := 31) hx hb dL_role_27 (by decide) ?_
        exact rp_iret hx hb hr hlocks ⟨3, by decide, by decide⟩ dL_role_31
    · refine lv_iconst (v := 2) hx hb dL_role_17 (by decide) ?_
      refine lv_goto (tgt := 31) hx hb dL_role_18 (by decide) ?_
      exact rp_iret hx hb hr hlocks ⟨2, by decide, by decide⟩ dL_role_31
  · refine lv_iconst (v := 1) hx hb dL_role_8 (by decide) ?_
    refine lv_goto (tgt := 31) hx hb dL_role_9 (by decide) ?_
    exact rp_iret hx hb hr hlocks ⟨1, by decide, by decide⟩ dL_role_31

def CB (b L : Nat) (xs : Nat → Int32) (U : State) : Prop := va_X b L xs U U.heap ∧ b < U.heap.size
theorem CB.blind {b L : Nat} {xs : Nat → Int32} {av : List Value} : FrameBlind (va_Pc av (CB b L xs)) := fun a U g mk q => ⟨q.1, va_X.moved (u := U) (U := U.calling g mk a) (Vm.Alike.refl U.vm) q.2.1, q.2.2⟩
set_option maxHeartbeats 1000000 in
theorem c_L_cell (l : Launch) {b L : Nat} {xs : Nat → Int32} (k : Nat) (hk : k < L) (hL : L ≤ 260) : Met l yL_cell wsL_cell (rmR 0 0) (va_Pc [.ref b, .int (nI k)] (CB b L xs)) (vp_Si (fun r => r = xs k)) 0 0 (fun _ => False) := by
  refine Met.ofW (cc := cL_cell) (maxL := 2) (ret := some .int) (by decide) rfl ?_
  intro p e s m args below meth c s₁ B hml hv
  obtain ⟨rfl, hX, hbl⟩ := hv
  have hl := lv_entry [.ref b, .int (nI k)] (n := 2) (Nat.le_of_ble_eq_true rfl)
  rw [lg_entry_eq]
  generalize (lg_sl ([.ref b, .int (nI k)]) ++ List.replicate (2 - (lg_sl ([.ref b, .int (nI k)])).length) Slot.unset).toArray = ls at hl ⊢
  have hl : lv_has ls 2 [(0, .ref b), (1, .int (nI k))] := hl
  have hx := B.exec
  have hb : c.code = cL_cell := B.bytes
  have hS : va_S (fun _ : Nat => False) s.heap s.heap [] := va_S.rf
  refine lv_iload_n hx hb dL_cell_0 rfl (lv_at hl 1 rfl) ?_
  refine lv_aload_n hx hb dL_cell_1 rfl (lv_at hl 0 rfl) ?_
  refine va_slen hx hb hX hbl id hS dL_cell_2 ?_
  refine lv_icmp_ge (tgt := 12) hx hb dL_cell_3 (by decide) (fun c1 => absurd c1 (nI_ge hk (by omega))) (fun _ => ?_)
  refine lv_aload_n hx hb dL_cell_6 rfl (lv_at hl 0 rfl) ?_
  refine lv_iload_n hx hb dL_cell_7 rfl (lv_at hl 1 rfl) ?_
  refine va_sld hx hb hX hbl id hS (vp_in_nI hk (by omega)) dL_cell_8 ?_
  rw [nI_clamp (by omega)]
  refine lv_goto (tgt := 18) hx hb dL_cell_9 (by decide) ?_
  exact rd_iret hx hb B.returns B.notSynchronized rfl dL_cell_18
