/-! the law over the script 38, 0, 38, 0 ..: every turn begins the same game anew -/
abbrev rfR : Room := { frames := 20, cells := 700, slots := 6000, locals := 700 }
abbrev rfPP : Int32 → Nat → Prop := fun r u => r = 0 ∨ (r = 1 ∧ 126 ≤ u)
abbrev rfQc (s : State) (A : Nat → Prop) : Array Value → State → Outcome → State → Prop := va_Qi rfPP (fun u t => s.heap.size + u ≤ t.heap.size) A
theorem nI_2 (t : Nat) : (2 : Int32) * nI t = nI (2 * t) := (Int32.ofNat_mul 2 t).symm
/-- what holds on the law's way, beside the world -/
def LG (p : Program) (l : Launch) (s : State) (m : MethodId) (args : Array Value) (meth : Method) (c : Code) (D : va_G) (cI : ClassId) (A : Nat → Prop) (b L : Nat) (xs : Nat → Int32) : Prop := p.tables.exec = Jvm.exec ∧ c.code = cL_law ∧ meth.sig.returnType = some .boolean ∧ meth.locks = false ∧ c.maxLocals = 11 ∧ s.vm.findClass RL = some m.cls ∧ (∀ w ∈ wsL_law, w.before args s = true) ∧ va_K D vwCl (tys9 cI cI cI) s ∧ NM s ∧ ND s ∧ NX s ∧ l.stackTraces = false ∧ va_X b L xs s s.heap ∧ b < s.heap.size ∧ ¬ A b ∧ (∀ q : Nat, s.heap.size ≤ q → A q) ∧ ZQ A s s.heap ∧ L ≤ 260 ∧ 68 ≤ L ∧ ∀ t, t < 34 → xs (2 * t) = 38 ∧ xs (2 * t + 1) = 0
section LawRet
variable {p : Program} {l : Launch} {e : Env} {s : State} {m : MethodId} {args : Array Value} {below : List Frame} {meth : Method} {c : Code} {H : Heap} {locs : List Loc} {cells slots pc : Nat} {ls : Array Slot} {A : Nat → Prop}
theorem law_ret {v : Int32} (u : Nat) (hx : p.tables.exec = Jvm.exec) (hb : c.code = cL_law) (hr : meth.sig.returnType = some .boolean) (hlocks : meth.locks = false) (hS : va_S A s.heap H locs) (hc : cells ≤ 700) (hs : slots ≤ 6000) (hp : rfPP v u) (hn : narrow .boolean (.int v) = .int v) (hG : s.heap.size + u ≤ H.size) (hdg : decode cL_law pc = .ok (.ireturn, 1)) : W p l e rfR s m args below meth c H locs cells slots (MQ below (rfQc s A) args s 700 6000 A) (F0 m pc ls [.int v]) :=
  W.widen (k := 700) (n := 6000) hc hs (W.zret hx hb hr hn (fun t ht _ => ⟨⟨v, u, rfl, hp, by show s.heap.size + u ≤ t.heap.size; rw [ht]; exact hG⟩, hS.F ht⟩) hS.2.2 hdg hlocks)
theorem cell_call {L b k : Nat} {xs : Nat → Int32} {own : String} {Ts : List Cond} {cc : ByteArray} {nL index : Nat} {rest st0 : List Value} {R : Room} {Q : State → Prop} (S : CallFix p m c cc nL s args Ts own) (hk : k < L) (hL : L ≤ 260) (hX : va_X b L xs s s.heap) (hbl : b < s.heap.size) (hbA : ¬ A b) (hS : va_S A s.heap H locs) (cw : CallB R s args own index yL_cell cL_cell 2 (some .int) wsL_cell (rmR 0 0) 0 0 2 ∧ (Cond.static yL_cell).before args s = true)
    (hsize : ls.size = nL) (hst : st0 = .int (nI k) :: .ref b :: rest) (hW : (rest.map fun v => v.category).sum ≤ 8) (hdg : decode cc pc = .ok (.invokestatic index, 3)) (hf : cells ≤ R.cells ∧ slots ≤ R.slots)
    (kk : W p l e R s m args below meth c H locs cells slots Q (F0 m (pc + 3) ls (.int (xs k) :: rest))) : W p l e R s m args below meth c H locs cells slots Q (F0 m pc ls st0) :=
  rs_call (va_runS (As := [.ref b, .int (nI k)]) (rest := rest) S (c_L_cell l k hk hL) cw ⟨CB.blind, fun U hU hW9 => ⟨rfl, by
    refine ⟨va_X.moved hW9.alike ?_, ?_⟩
    · rw [hU]; exact hX.kept (hS.2.1 b hbl hbA)
    · rw [hU]; exact Nat.lt_of_lt_of_le hbl hS.1⟩⟩ rfl rfl hsize hst (lv_room hW) hdg hf) kk
end LawRet
set_option maxHeartbeats 4000000 in
set_option maxRecDepth 100000 in
theorem law_loop {p : Program} {l : Launch} {e : Env} {s : State} {m : MethodId} {args : Array Value} {below : List Frame} {meth : Method} {c : Code} {D : va_G} {cI : ClassId} {A : Nat → Prop} {b0 L hT hB hV hG kg kv kf kb : Nat} {f xs : Nat → Int32} (G : LG p l s m args meth c D cI A b0 L xs) :
    ∀ (n t : Nat), t + n = 34 → ∀ (a : Nat → Int32) (tr : Int32) (pg vv g v b : Nat → Int32) (H : Heap) (locs : List Loc) (ls : Array Slot), (∀ j, 1120 ≤ j → pg j = 0) → s.heap.size + (9 + 11 * t) ≤ H.size → va_P D vwCl [cT hT hB hV a, cB hB hG tr, cA cI hG 1120 pg, cA cI hV 8 vv, cA cI kg 13 g, cA cI kv 8 v, cA cI kf 60 f, cA cI kb 40 b] H → va_D A [cT hT hB hV a, cB hB hG tr, cA cI hG 1120 pg, cA cI hV 8 vv, cA cI kg 13 g, cA cI kv 8 v, cA cI kf 60 f, cA cI kb 40 b] → va_S A s.heap H locs → lv_has ls 11 [(0, .ref b0), (1, .ref hT), (2, .ref kg), (3, .ref kv), (4, .ref kf), (5, .ref kb), (6, .int (nI t))] → W p l e rfR s m args below meth c H locs (17 + 19 * t) (1319 + 114 * t) (MQ below (rfQc s A) args s 700 6000 A) (F0 m 49 ls []) := by
  intro n
  induction n with
  | zero =>
    intro t ht9 a tr pg vv g v b H locs ls hpg0 hgr hP hD hS hl
    obtain ⟨hx, hb, hr, hlocks, hml, hown, htL, hK, hN, hY, hXn, hst, hX9, hbl, hbA, hA, hZ, hL9, h68, hxs⟩ := id G
    refine lv_iload hx hb dL_law_49 (lv_at hl 6 rfl) ?_
    refine lv_bipush (v := 34) hx hb dL_law_51 (by decide) ?_
    refine lv_icmp_ge (tgt := 275) hx hb dL_law_53 (by decide) (fun c1 => ?_) (fun c1 => absurd (nI_le (a := 34) (b := t) (by omega) (by omega)) c1)
    refine lv_iconst (v := 1) hx hb dL_law_275 (by decide) ?_
    exact law_ret 383 hx hb hr hlocks hS (by omega) (by omega) (Or.inr ⟨rfl, by omega⟩) rfl (by omega) dL_law_276
  | succ n ih =>
    intro t ht9 a tr pg vv g v b H locs ls hpg0 hgr hP hD hS hl
    obtain ⟨hx, hb, hr, hlocks, hml, hown, htL, hK, hN, hY, hXn, hst, hX9, hbl, hbA, hA, hZ, hL9, h68, hxs⟩ := id G
    refine lv_iload hx hb dL_law_49 (lv_at hl 6 rfl) ?_
    refine lv_bipush (v := 34) hx hb dL_law_51 (by decide) ?_
    refine lv_icmp_ge (tgt := 275) hx hb dL_law_53 (by decide) (fun c1 => ?_) (fun c1 => ?_)
    · have ht34 : t = 34 := by rcases Nat.lt_or_ge t 34 with h9 | h9; exact absurd c1 (nI_ge (a := t) (b := 34) h9 (by decide)); omega
      refine lv_iconst (v := 1) hx hb dL_law_275 (by decide) ?_
      exact law_ret 383 hx hb hr hlocks hS (by omega) (by omega) (Or.inr ⟨rfl, by omega⟩) rfl (by omega) dL_law_276
    · have ht : t < 34 := k_lt (N := 34) (by decide) (by decide) (by omega) c1
      refine lv_aload_n hx hb dL_law_56 rfl (lv_at hl 0 rfl) ?_
      refine lv_iconst (v := 2) hx hb dL_law_57 (by decide) ?_
      refine lv_iload hx hb dL_law_58 (lv_at hl 6 rfl) ?_
      refine lv_imul hx hb dL_law_60 ?_
      refine k_top (nI (2 * t)) (nI_2 t) ?_
      refine cell_call (k := (2 * t)) (rest := []) ⟨hx, hb, hml, hown, htL⟩ (by omega) hL9 hX9 hbl hbA hS (va_cwS 2 htL gL_law_L_cell rfl rfl rfl (by decide +kernel) ⟨Nat.le_of_ble_eq_true rfl, Nat.le_of_ble_eq_true rfl⟩) hl.1 rfl (Nat.le_of_ble_eq_true rfl) dL_law_61 ⟨by show 17 + 19 * t ≤ 700; omega, by show 1319 + 114 * t ≤ 6000; omega⟩ ?_
      refine k_top 38 (hxs t ht).1 ?_
      refine lv_istore (lv' := [(7, .int 38), (0, .ref b0), (1, .ref hT), (2, .ref kg), (3, .ref kv), (4, .ref kf), (5, .ref kb), (6, .int (nI t))]) hx hb dL_law_64 hl (by decide) rfl (fun ls hl => ?_)
      refine lv_aload_n hx hb dL_law_66 rfl (lv_at hl 1 rfl) ?_
      refine lv_iconst (v := 2) hx hb dL_law_67 (by decide) ?_
      refine lv_iload hx hb dL_law_68 (lv_at hl 7 rfl) ?_
      refine lv_imul hx hb dL_law_70 ?_
      refine k_top (nI (2 * t)) (nI_2 t) ?_
      refine lv_iconst (v := 1) hx hb dL_law_71 (by decide) ?_
      refine lv_iadd hx hb dL_law_72 ?_
      refine k_top (nI (2 * t + 1)) (nI_1 (2 * t)) ?_
      refine cell_call (k := (2 * t + 1)) (rest := []) ⟨hx, hb, hml, hown, htL⟩ (by omega) hL9 hX9 hbl hbA hS (va_cwS 2 htL gL_law_L_cell rfl rfl rfl (by decide +kernel) ⟨Nat.le_of_ble_eq_true rfl, Nat.le_of_ble_eq_true rfl⟩) hl.1 rfl (Nat.le_of_ble_eq_true rfl) dL_law_73 ⟨by show 17 + 19 * t ≤ 700; omega, by show 1319 + 114 * t ≤ 6000; omega⟩ ?_
      refine k_top 0 (hxs t ht).2 ?_
      refine lv_istore (lv' := [(8, .int 0), (7, .int 38), (0, .ref b0), (1, .ref hT), (2, .ref kg), (3, .ref kv), (4, .ref kf), (5, .ref kb), (6, .int (nI t))]) hx hb dL_law_76 hl (by decide) rfl (fun ls hl => ?_)
      refine lv_iload hx hb dL_law_78 (lv_at hl 8 rfl) ?_
      refine lv_if_ne (tgt := 88) hx hb dL_law_80 (by decide) (fun c2 => ?_) (fun c2 => ?_)
      · refine lv_iload hx hb dL_law_88 (lv_at hl 1 rfl) ?_
        refine lv_bipush (v := 20) hx hb dL_law_90 (by decide) ?_
        refine rd_S (As := [.int 38, .int 20]) (rest := []) ⟨hx, hb, hml, hown, htL⟩ (c_L_low l D cI cI cI 38 20 (by decide)) (va_cwS 2 htL gL_law_L_low rfl rfl rfl (by decide +kernel) ⟨Nat.le_of_ble_eq_true rfl, Nat.le_of_ble_eq_true rfl⟩) (hP.sub (ws' := []) [] rfl) hK hN rfl hl.1 rfl (Nat.le_of_ble_eq_true rfl) dL_law_92 ⟨by show 17 + 19 * t ≤ 700; omega, by show 1319 + 114 * t ≤ 6000; omega⟩ ?_
        refine k_top 19 (by decide) ?_
        refine lv_istore (lv' := [(9, .int 19), (8, .int 0), (7, .int 38), (0, .ref b0), (1, .ref hT), (2, .ref kg), (3, .ref kv), (4, .ref kf), (5, .ref kb), (6, .int (nI t))]) hx hb dL_law_95 hl (by decide) rfl (fun ls hl => ?_)
        refine lv_iload hx hb dL_law_97 (lv_at hl 0 rfl) ?_
        refine lv_bipush (v := 18) hx hb dL_law_99 (by decide) ?_
        refine lv_icmp_gt (tgt := 118) hx hb dL_law_101 (by decide) (fun c3 => ?_) (fun c3 => ?_)
        · refine lv_aload_n hx hb dL_law_118 rfl (lv_at hl 4 rfl) ?_
          refine lv_iload hx hb dL_law_119 (lv_at hl 1 rfl) ?_
          refine lv_aload_n hx hb dL_law_121 rfl (lv_at hl 5 rfl) ?_
          refine lv_aload_n hx hb dL_law_122 rfl (lv_at hl 6 rfl) ?_
          refine lv_aload hx hb dL_law_123 (lv_at hl 7 rfl) ?_
          refine lv_aload hx hb dL_law_125 (lv_at hl 8 rfl) ?_
          refine mg_S (As := [.ref hT, .int 0, .ref kg, .ref kv, .ref kf, .ref kb]) (rest := []) ⟨hx, hb, hml, hown, htL⟩ (c_L_begins l D cI cI cI _ hst hT hB hV a hG tr pg vv kg kv kf kb g v f b hpg0) (va_cwS 6 htL gL_law_L_begins rfl rfl rfl (by decide +kernel) ⟨Nat.le_of_ble_eq_true rfl, Nat.le_of_ble_eq_true rfl⟩) hP hD hK hN hY hXn hS hA hZ rfl hl.1 rfl (Nat.le_of_ble_eq_true rfl) dL_law_127 ⟨by show 17 + 19 * t + 8 ≤ 700; omega, by show 1319 + 114 * t + 48 ≤ 6000; omega⟩ [0, 1, 2, 3, 4, 5, 6, 7] [] rfl rfl (fun b9 => [cT hT hB hV (aYs a (nI 4) (nI 1) (nI 1) (nI 2)), cB hB hG (yWo (nI 1) (nI 1) (nI 2)), cA cI hG 1120 rfG, cA cI hV 8 (iUp vM vv 8), cA cI kg 13 (gN g), cA cI kv 8 (vN v), cA cI kf 60 f, cA cI kb 40 b9]) (fun _ => rfl) (fun _ i9 h9 => nomatch h9) (fun _ => rfl) 8 (fun _ => rfl) (by decide) (by decide) (fun r1 b9 H locs hr1 hP hD hS hG1 => ?_)
          have hP : va_P D vwCl [cT hT hB hV (aYs a (nI 4) (nI 1) (nI 1) (nI 2)), cB hB hG (yWo (nI 1) (nI 1) (nI 2)), cA cI hG 1120 rfG, cA cI hV 8 (iUp vM vv 8), cA cI kg 13 (gN g), cA cI kv 8 (vN v), cA cI kf 60 f, cA cI kb 40 b9] H := hP
          have hD : va_D A [cT hT hB hV (aYs a (nI 4) (nI 1) (nI 1) (nI 2)), cB hB hG (yWo (nI 1) (nI 1) (nI 2)), cA cI hG 1120 rfG, cA cI hV 8 (iUp vM vv 8), cA cI kg 13 (gN g), cA cI kv 8 (vN v), cA cI kf 60 f, cA cI kb 40 b9] := hD
          try dsimp only at hG1
          rcases hr1 with hr1 | hr1
          · rw [hr1]
            refine lv_istore (lv' := [(10, .int 0), (9, .int 19), (8, .int 0), (7, .int 38), (0, .ref b0), (1, .ref hT), (2, .ref kg), (3, .ref kv), (4, .ref kf), (5, .ref kb), (6, .int (nI t))]) hx hb dL_law_130 hl (by decide) rfl (fun ls hl => ?_)
            refine lv_goto (tgt := 242) hx hb dL_law_132 (by decide) ?_
            refine lv_iload hx hb dL_law_242 (lv_at hl 0 rfl) ?_
            refine lv_if_eq (tgt := 267) hx hb dL_law_244 (by decide) (fun c4 => ?_) (fun c4 => ?_)
            · refine lv_iconst (v := 0) hx hb dL_law_267 (by decide) ?_
              exact law_ret 0 hx hb hr hlocks hS (by omega) (by omega) (Or.inl rfl) rfl (by have h9 := hS.1; omega) dL_law_268
            · exact absurd c4 (by decide)
          · rw [hr1]
            refine lv_istore (lv' := [(10, .int 1), (9, .int 19), (8, .int 0), (7, .int 38), (0, .ref b0), (1, .ref hT), (2, .ref kg), (3, .ref kv), (4, .ref kf), (5, .ref kb), (6, .int (nI t))]) hx hb dL_law_130 hl (by decide) rfl (fun ls hl => ?_)
            refine lv_goto (tgt := 242) hx hb dL_law_132 (by decide) ?_
            refine lv_iload hx hb dL_law_242 (lv_at hl 0 rfl) ?_
            refine lv_if_eq (tgt := 267) hx hb dL_law_244 (by decide) (fun c5 => ?_) (fun c5 => ?_)
            · exact absurd c5 (by decide)
            · refine lv_aload_n hx hb dL_law_247 rfl (lv_at hl 5 rfl) ?_
              refine lv_iload hx hb dL_law_248 (lv_at hl 3 rfl) ?_
              refine lv_iconst (v := 5) hx hb dL_law_250 (by decide) ?_
              refine lv_ishr hx hb dL_law_251 ?_
              refine k_top 1 (by decide) ?_
              refine lv_iload hx hb dL_law_252 (lv_at hl 2 rfl) ?_
              refine lv_ixor hx hb dL_law_254 ?_
              refine k_top 1 (by decide) ?_
              refine lv_aload_n hx hb dL_law_255 rfl (lv_at hl 6 rfl) ?_
              refine lv_aload_n hx hb dL_law_256 rfl (lv_at hl 7 rfl) ?_
              refine lv_aload hx hb dL_law_257 (lv_at hl 8 rfl) ?_
              refine lv_aload hx hb dL_law_259 (lv_at hl 9 rfl) ?_
              refine mg_S (As := [.ref hT, .int 1, .ref kg, .ref kv, .ref kf, .ref kb]) (rest := []) ⟨hx, hb, hml, hown, htL⟩ (c_L_told1 l D cI cI cI _ hst hT hB hV (aYs a (nI 4) (nI 1) (nI 1) (nI 2)) hG (yWo (nI 1) (nI 1) (nI 2)) rfG (iUp vM vv 8) kg kv kf kb (gN g) (vN v) f b9 rfK rfP_B rfG_ok.1 rfG_ok.2 rfl rfl rfl rfl rfl rfl rfl rfl) (va_cwS 6 htL gL_law_L_isTold rfl rfl rfl (by decide +kernel) ⟨Nat.le_of_ble_eq_true rfl, Nat.le_of_ble_eq_true rfl⟩) hP hD hK hN hY hXn hS hA hZ rfl hl.1 rfl (Nat.le_of_ble_eq_true rfl) dL_law_261 ⟨by show 17 + 19 * t + 8 + 11 ≤ 700; omega, by show 1319 + 114 * t + 48 + 66 ≤ 6000; omega⟩ [0, 1, 2, 3, 4, 5, 6, 7] [] rfl rfl (fun u2 => [cT hT hB hV (aYs a (nI 4) (nI 1) (nI 1) (nI 2)), cB hB hG (yWo (nI 1) (nI 1) (nI 2)), cA cI hG 1120 rfG, cA cI hV 8 (iUp vM vv 8), cA cI kg 13 (gN g), cA cI kv 8 (vN v), cA cI kf 60 f, cA cI kb 40 u2.2]) (fun _ => rfl) (fun _ i9 h9 => nomatch h9) (fun _ => rfl) 8 (fun _ => rfl) (by decide) (by decide) (fun r2 u2 H locs hr2 hP hD hS hG2 => ?_)
              obtain ⟨n3, b3⟩ := u2
              have hP : va_P D vwCl [cT hT hB hV (aYs a (nI 4) (nI 1) (nI 1) (nI 2)), cB hB hG (yWo (nI 1) (nI 1) (nI 2)), cA cI hG 1120 rfG, cA cI hV 8 (iUp vM vv 8), cA cI kg 13 (gN g), cA cI kv 8 (vN v), cA cI kf 60 f, cA cI kb 40 b3] H := hP
              have hD : va_D A [cT hT hB hV (aYs a (nI 4) (nI 1) (nI 1) (nI 2)), cB hB hG (yWo (nI 1) (nI 1) (nI 2)), cA cI hG 1120 rfG, cA cI hV 8 (iUp vM vv 8), cA cI kg 13 (gN g), cA cI kv 8 (vN v), cA cI kf 60 f, cA cI kb 40 b3] := hD
              dsimp only at hG2
              rcases hr2 with ⟨hr2, hn3⟩ | ⟨hr2, hn3⟩
              · rw [hr2]
                have hn3 : n3 = 0 := hn3
                rw [hn3] at hG2
                refine lv_if_ne (tgt := 269) hx hb dL_law_264 (by decide) (fun c6 => ?_) (fun c6 => ?_)
                · exact absurd c6 (by decide)
                · refine lv_iconst (v := 0) hx hb dL_law_267 (by decide) ?_
                  exact law_ret 0 hx hb hr hlocks hS (by omega) (by omega) (Or.inl rfl) rfl (by have h9 := hS.1; omega) dL_law_268
              · rw [hr2]
                have hn3 : n3 = 11 := hn3
                rw [hn3] at hG2
                refine lv_if_ne (tgt := 269) hx hb dL_law_264 (by decide) (fun c7 => ?_) (fun c7 => ?_)
                · refine lv_iinc (v := (nI (t + 1))) (lv' := [(6, .int (nI (t + 1))), (10, .int 1), (9, .int 19), (8, .int 0), (7, .int 38), (0, .ref b0), (1, .ref hT), (2, .ref kg), (3, .ref kv), (4, .ref kf), (5, .ref kb)]) hx hb dL_law_269 hl (k := 10) rfl (nI_1 t) (by decide) rfl (fun ls hl => ?_)
                  refine lv_goto (tgt := 49) hx hb dL_law_272 (by decide) ?_
                  have h9 := ih (t + 1) (by omega) (aYs a (nI 4) (nI 1) (nI 1) (nI 2)) (yWo (nI 1) (nI 1) (nI 2)) rfG (iUp vM vv 8) (gN g) (vN v) b3 H locs ls rfG_hi (by omega) hP hD hS (lv_sub hl [5, 6, 7, 8, 9, 10, 0] rfl)
                  rw [show 17 + 19 * (t + 1) = 17 + 19 * t + 8 + 11 by omega, show 1319 + 114 * (t + 1) = 1319 + 114 * t + 48 + 66 by omega] at h9
                  exact h9
                · exact absurd c7 (by decide)
        · exact absurd c3 (by decide)
      · refine lv_bipush (v := 19) hx hb dL_law_83 (by decide) ?_
        refine lv_goto (tgt := 95) hx hb dL_law_85 (by decide) ?_
        refine lv_istore (lv' := [(9, .int 19), (8, .int 0), (7, .int 38), (0, .ref b0), (1, .ref hT), (2, .ref kg), (3, .ref kv), (4, .ref kf), (5, .ref kb), (6, .int (nI t))]) hx hb dL_law_95 hl (by decide) rfl (fun ls hl => ?_)
        refine lv_iload hx hb dL_law_97 (lv_at hl 0 rfl) ?_
        refine lv_bipush (v := 18) hx hb dL_law_99 (by decide) ?_
        refine lv_icmp_gt (tgt := 118) hx hb dL_law_101 (by decide) (fun c8 => ?_) (fun c8 => ?_)
        · refine lv_aload_n hx hb dL_law_118 rfl (lv_at hl 4 rfl) ?_
          refine lv_iload hx hb dL_law_119 (lv_at hl 1 rfl) ?_
          refine lv_aload_n hx hb dL_law_121 rfl (lv_at hl 5 rfl) ?_
          refine lv_aload_n hx hb dL_law_122 rfl (lv_at hl 6 rfl) ?_
          refine lv_aload hx hb dL_law_123 (lv_at hl 7 rfl) ?_
          refine lv_aload hx hb dL_law_125 (lv_at hl 8 rfl) ?_
          refine mg_S (As := [.ref hT, .int 0, .ref kg, .ref kv, .ref kf, .ref kb]) (rest := []) ⟨hx, hb, hml, hown, htL⟩ (c_L_begins l D cI cI cI _ hst hT hB hV a hG tr pg vv kg kv kf kb g v f b hpg0) (va_cwS 6 htL gL_law_L_begins rfl rfl rfl (by decide +kernel) ⟨Nat.le_of_ble_eq_true rfl, Nat.le_of_ble_eq_true rfl⟩) hP hD hK hN hY hXn hS hA hZ rfl hl.1 rfl (Nat.le_of_ble_eq_true rfl) dL_law_127 ⟨by show 17 + 19 * t + 8 ≤ 700; omega, by show 1319 + 114 * t + 48 ≤ 6000; omega⟩ [0, 1, 2, 3, 4, 5, 6, 7] [] rfl rfl (fun b9 => [cT hT hB hV (aYs a (nI 4) (nI 1) (nI 1) (nI 2)), cB hB hG (yWo (nI 1) (nI 1) (nI 2)), cA cI hG 1120 rfG, cA cI hV 8 (iUp vM vv 8), cA cI kg 13 (gN g), cA cI kv 8 (vN v), cA cI kf 60 f, cA cI kb 40 b9]) (fun _ => rfl) (fun _ i9 h9 => nomatch h9) (fun _ => rfl) 8 (fun _ => rfl) (by decide) (by decide) (fun r1 b9 H locs hr1 hP hD hS hG1 => ?_)
          have hP : va_P D vwCl [cT hT hB hV (aYs a (nI 4) (nI 1) (nI 1) (nI 2)), cB hB hG (yWo (nI 1) (nI 1) (nI 2)), cA cI hG 1120 rfG, cA cI hV 8 (iUp vM vv 8), cA cI kg 13 (gN g), cA cI kv 8 (vN v), cA cI kf 60 f, cA cI kb 40 b9] H := hP
          have hD : va_D A [cT hT hB hV (aYs a (nI 4) (nI 1) (nI 1) (nI 2)), cB hB hG (yWo (nI 1) (nI 1) (nI 2)), cA cI hG 1120 rfG, cA cI hV 8 (iUp vM vv 8), cA cI kg 13 (gN g), cA cI kv 8 (vN v), cA cI kf 60 f, cA cI kb 40 b9] := hD
          try dsimp only at hG1
          rcases hr1 with hr1 | hr1
          · rw [hr1]
            refine lv_istore (lv' := [(10, .int 0), (9, .int 19), (8, .int 0), (7, .int 38), (0, .ref b0), (1, .ref hT), (2, .ref kg), (3, .ref kv), (4, .ref kf), (5, .ref kb), (6, .int (nI t))]) hx hb dL_law_130 hl (by decide) rfl (fun ls hl => ?_)
            refine lv_goto (tgt := 242) hx hb dL_law_132 (by decide) ?_
            refine lv_iload hx hb dL_law_242 (lv_at hl 0 rfl) ?_
            refine lv_if_eq (tgt := 267) hx hb dL_law_244 (by decide) (fun c9 => ?_) (fun c9 => ?_)
            · refine lv_iconst (v := 0) hx hb dL_law_267 (by decide) ?_
              exact law_ret 0 hx hb hr hlocks hS (by omega) (by omega) (Or.inl rfl) rfl (by have h9 := hS.1; omega) dL_law_268
            · exact absurd c9 (by decide)
          · rw [hr1]
            refine lv_istore (lv' := [(10, .int 1), (9, .int 19), (8, .int 0), (7, .int 38), (0, .ref b0), (1, .ref hT), (2, .ref kg), (3, .ref kv), (4, .ref kf), (5, .ref kb), (6, .int (nI t))]) hx hb dL_law_130 hl (by decide) rfl (fun ls hl => ?_)
            refine lv_goto (tgt := 242) hx hb dL_law_132 (by decide) ?_
            refine lv_iload hx hb dL_law_242 (lv_at hl 0 rfl) ?_
            refine lv_if_eq (tgt := 267) hx hb dL_law_244 (by decide) (fun c10 => ?_) (fun c10 => ?_)
            · exact absurd c10 (by decide)
            · refine lv_aload_n hx hb dL_law_247 rfl (lv_at hl 5 rfl) ?_
              refine lv_iload hx hb dL_law_248 (lv_at hl 3 rfl) ?_
              refine lv_iconst (v := 5) hx hb dL_law_250 (by decide) ?_
              refine lv_ishr hx hb dL_law_251 ?_
              refine k_top 1 (by decide) ?_
              refine lv_iload hx hb dL_law_252 (lv_at hl 2 rfl) ?_
              refine lv_ixor hx hb dL_law_254 ?_
              refine k_top 1 (by decide) ?_
              refine lv_aload_n hx hb dL_law_255 rfl (lv_at hl 6 rfl) ?_
              refine lv_aload_n hx hb dL_law_256 rfl (lv_at hl 7 rfl) ?_
              refine lv_aload hx hb dL_law_257 (lv_at hl 8 rfl) ?_
              refine lv_aload hx hb dL_law_259 (lv_at hl 9 rfl) ?_
              refine mg_S (As := [.ref hT, .int 1, .ref kg, .ref kv, .ref kf, .ref kb]) (rest := []) ⟨hx, hb, hml, hown, htL⟩ (c_L_told1 l D cI cI cI _ hst hT hB hV (aYs a (nI 4) (nI 1) (nI 1) (nI 2)) hG (yWo (nI 1) (nI 1) (nI 2)) rfG (iUp vM vv 8) kg kv kf kb (gN g) (vN v) f b9 rfK rfP_B rfG_ok.1 rfG_ok.2 rfl rfl rfl rfl rfl rfl rfl rfl) (va_cwS 6 htL gL_law_L_isTold rfl rfl rfl (by decide +kernel) ⟨Nat.le_of_ble_eq_true rfl, Nat.le_of_ble_eq_true rfl⟩) hP hD hK hN hY hXn hS hA hZ rfl hl.1 rfl (Nat.le_of_ble_eq_true rfl) dL_law_261 ⟨by show 17 + 19 * t + 8 + 11 ≤ 700; omega, by show 1319 + 114 * t + 48 + 66 ≤ 6000; omega⟩ [0, 1, 2, 3, 4, 5, 6, 7] [] rfl rfl (fun u2 => [cT hT hB hV (aYs a (nI 4) (nI 1) (nI 1) (nI 2)), cB hB hG (yWo (nI 1) (nI 1) (nI 2)), cA cI hG 1120 rfG, cA cI hV 8 (iUp vM vv 8), cA cI kg 13 (gN g), cA cI kv 8 (vN v), cA cI kf 60 f, cA cI kb 40 u2.2]) (fun _ => rfl) (fun _ i9 h9 => nomatch h9) (fun _ => rfl) 8 (fun _ => rfl) (by decide) (by decide) (fun r2 u2 H locs hr2 hP hD hS hG2 => ?_)
              obtain ⟨n3, b3⟩ := u2
              have hP : va_P D vwCl [cT hT hB hV (aYs a (nI 4) (nI 1) (nI 1) (nI 2)), cB hB hG (yWo (nI 1) (nI 1) (nI 2)), cA cI hG 1120 rfG, cA cI hV 8 (iUp vM vv 8), cA cI kg 13 (gN g), cA cI kv 8 (vN v), cA cI kf 60 f, cA cI kb 40 b3] H := hP
              have hD : va_D A [cT hT hB hV (aYs a (nI 4) (nI 1) (nI 1) (nI 2)), cB hB hG (yWo (nI 1) (nI 1) (nI 2)), cA cI hG 1120 rfG, cA cI hV 8 (iUp vM vv 8), cA cI kg 13 (gN g), cA cI kv 8 (vN v), cA cI kf 60 f, cA cI kb 40 b3] := hD
              dsimp only at hG2
              rcases hr2 with ⟨hr2, hn3⟩ | ⟨hr2, hn3⟩
              · rw [hr2]
                have hn3 : n3 = 0 := hn3
                rw [hn3] at hG2
                refine lv_if_ne (tgt := 269) hx hb dL_law_264 (by decide) (fun c11 => ?_) (fun c11 => ?_)
                · exact absurd c11 (by decide)
                · refine lv_iconst (v := 0) hx hb dL_law_267 (by decide) ?_
                  exact law_ret 0 hx hb hr hlocks hS (by omega) (by omega) (Or.inl rfl) rfl (by have h9 := hS.1; omega) dL_law_268
              · rw [hr2]
                have hn3 : n3 = 11 := hn3
                rw [hn3] at hG2
                refine lv_if_ne (tgt := 269) hx hb dL_law_264 (by decide) (fun c12 => ?_) (fun c12 => ?_)
                · refine lv_iinc (v := (nI (t + 1))) (lv' := [(6, .int (nI (t + 1))), (10, .int 1), (9, .int 19), (8, .int 0), (7, .int 38), (0, .ref b0), (1, .ref hT), (2, .ref kg), (3, .ref kv), (4, .ref kf), (5, .ref kb)]) hx hb dL_law_269 hl (k := 10) rfl (nI_1 t) (by decide) rfl (fun ls hl => ?_)
                  refine lv_goto (tgt := 49) hx hb dL_law_272 (by decide) ?_
                  have h9 := ih (t + 1) (by omega) (aYs a (nI 4) (nI 1) (nI 1) (nI 2)) (yWo (nI 1) (nI 1) (nI 2)) rfG (iUp vM vv 8) (gN g) (vN v) b3 H locs ls rfG_hi (by omega) hP hD hS (lv_sub hl [5, 6, 7, 8, 9, 10, 0] rfl)
                  rw [show 17 + 19 * (t + 1) = 17 + 19 * t + 8 + 11 by omega, show 1319 + 114 * (t + 1) = 1319 + 114 * t + 48 + 66 by omega] at h9
                  exact h9
                · exact absurd c12 (by decide)
        · exact absurd c8 (by decide)
