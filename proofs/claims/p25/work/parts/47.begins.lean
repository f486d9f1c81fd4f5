def gN (g : Nat → Int32) : Nat → Int32 := (upd (upd (upd (upd (upd (upd (upd (upd (upd (upd (upd (upd (upd g 0 1) 1 4) 2 1) 3 1) 4 2) 5 15) 6 1) 7 0) 8 0) 9 (-1)) 10 (-1)) 11 (-1)) 12 (-1))
def vN (v : Nat → Int32) : Nat → Int32 := (upd (upd (upd (upd (upd (upd (upd (upd v 0 (-1)) 1 (-1)) 2 (-1)) 3 (-1)) 4 (-1)) 5 (-1)) 6 (-1)) 7 (-1))
set_option maxHeartbeats 4000000 in
set_option maxRecDepth 100000 in
theorem c_L_begins (l : Launch) (D : va_G) (cI cZ cJ : ClassId) (sz : Nat) (hst : l.stackTraces = false) (hT hB hV : Nat) (a : Nat → Int32) (hG : Nat) (tr : Int32) (pg vv : Nat → Int32) (kg kv kf kb : Nat) (g v f b : Nat → Int32) (hpg0 : ∀ j, 1120 ≤ j → pg j = 0) : Mg (α := Nat → Int32) l D cI cZ cJ yL_begins wsL_begins 8 144 8 48 sz [.ref hT, .int 0, .ref kg, .ref kv, .ref kf, .ref kb] [cT hT hB hV a, cB hB hG tr, cA cI hG 1120 pg, cA cI hV 8 vv, cA cI kg 13 g, cA cI kv 8 v, cA cI kf 60 f, cA cI kb 40 b] (fun b => [cT hT hB hV (aYs a (nI 4) (nI 1) (nI 1) (nI 2)), cB hB hG (yWo (nI 1) (nI 1) (nI 2)), cA cI hG 1120 rfG, cA cI hV 8 (iUp vM vv 8), cA cI kg 13 (gN g), cA cI kv 8 (vN v), cA cI kf 60 f, cA cI kb 40 b]) (fun r _ => r = 0 ∨ r = 1) (fun _ => 0) := by
  refine mg_of (by decide) rfl (Nat.le_of_ble_eq_true rfl) (fun p e s m below meth c ls A hx hb hr hml hts hown hlocks hP hK hN hD hA hS hZ hY hXn hl => ?_)
  have hl : lv_has ls 12 [(0, .ref hT), (1, .int 0), (2, .ref kg), (3, .ref kv), (4, .ref kf), (5, .ref kb)] := hl
  refine lv_iconst (v := 4) hx hb dL_begins_0 (by decide) ?_
  refine lv_iload_n hx hb dL_begins_1 rfl (lv_at hl 1 rfl) ?_
  refine lv_iconst (v := 5) hx hb dL_begins_2 (by decide) ?_
  refine rd_S (As := [.int 0, .int 5]) (rest := [.int 4]) ⟨hx, hb, hml, hown, hts⟩ (c_L_low l D cI cZ cJ 0 5 (by decide)) (va_cwS 2 hts gL_begins_L_low rfl rfl rfl (by decide +kernel) ⟨Nat.le_of_ble_eq_true rfl, Nat.le_of_ble_eq_true rfl⟩) (hP.sub (ws' := []) [] rfl) hK hN rfl hl.1 rfl (Nat.le_of_ble_eq_true rfl) dL_begins_3 ⟨Nat.le_of_ble_eq_true rfl, Nat.le_of_ble_eq_true rfl⟩ ?_
  refine k_top 0 (by decide) ?_
  refine lv_iadd hx hb dL_begins_6 ?_
  refine k_top 4 (by decide) ?_
  refine lv_istore (lv' := [(6, .int 4), (0, .ref hT), (1, .int 0), (2, .ref kg), (3, .ref kv), (4, .ref kf), (5, .ref kb)]) hx hb dL_begins_7 hl (by decide) rfl (fun ls hl => ?_)
  refine lv_iconst (v := 1) hx hb dL_begins_9 (by decide) ?_
  refine lv_iload_n hx hb dL_begins_10 rfl (lv_at hl 2 rfl) ?_
  refine lv_iconst (v := 3) hx hb dL_begins_11 (by decide) ?_
  refine lv_ishr hx hb dL_begins_12 ?_
  refine k_top 0 (by decide) ?_
  refine lv_iload hx hb dL_begins_13 (lv_at hl 0 rfl) ?_
  refine lv_iconst (v := 1) hx hb dL_begins_15 (by decide) ?_
  refine lv_isub hx hb dL_begins_16 ?_
  refine k_top 3 (by decide) ?_
  refine lv_iconst (v := 2) hx hb dL_begins_17 (by decide) ?_
  refine lv_idiv hx hb dL_begins_18 (by decide) ?_
  refine k_top 1 (by decide) ?_
  refine rd_S (As := [.int 0, .int 1]) (rest := [.int 1]) ⟨hx, hb, hml, hown, hts⟩ (c_L_low l D cI cZ cJ 0 1 (by decide)) (va_cwS 2 hts gL_begins_L_low rfl rfl rfl (by decide +kernel) ⟨Nat.le_of_ble_eq_true rfl, Nat.le_of_ble_eq_true rfl⟩) (hP.sub (ws' := []) [] rfl) hK hN rfl hl.1 rfl (Nat.le_of_ble_eq_true rfl) dL_begins_19 ⟨Nat.le_of_ble_eq_true rfl, Nat.le_of_ble_eq_true rfl⟩ ?_
  refine k_top 0 (by decide) ?_
  refine lv_iadd hx hb dL_begins_22 ?_
  refine k_top 1 (by decide) ?_
  refine lv_istore (lv' := [(7, .int 1), (6, .int 4), (0, .ref hT), (1, .int 0), (2, .ref kg), (3, .ref kv), (4, .ref kf), (5, .ref kb)]) hx hb dL_begins_23 hl (by decide) rfl (fun ls hl => ?_)
  refine lv_iload_n hx hb dL_begins_25 rfl (lv_at hl 3 rfl) ?_
  refine lv_bipush (v := 6) hx hb dL_begins_26 (by decide) ?_
  refine lv_ishr hx hb dL_begins_28 ?_
  refine k_top 0 (by decide) ?_
  refine lv_iload hx hb dL_begins_29 (lv_at hl 1 rfl) ?_
  refine rd_S (As := [.int 0, .int 4]) (rest := []) ⟨hx, hb, hml, hown, hts⟩ (c_L_low l D cI cZ cJ 0 4 (by decide)) (va_cwS 2 hts gL_begins_L_low rfl rfl rfl (by decide +kernel) ⟨Nat.le_of_ble_eq_true rfl, Nat.le_of_ble_eq_true rfl⟩) (hP.sub (ws' := []) [] rfl) hK hN rfl hl.1 rfl (Nat.le_of_ble_eq_true rfl) dL_begins_31 ⟨Nat.le_of_ble_eq_true rfl, Nat.le_of_ble_eq_true rfl⟩ ?_
  refine k_top 0 (by decide) ?_
  refine lv_istore (lv' := [(8, .int 0), (7, .int 1), (6, .int 4), (0, .ref hT), (1, .int 0), (2, .ref kg), (3, .ref kv), (4, .ref kf), (5, .ref kb)]) hx hb dL_begins_34 hl (by decide) rfl (fun ls hl => ?_)
  refine lv_iconst (v := 0) hx hb dL_begins_36 (by decide) ?_
  refine lv_istore (lv' := [(9, .int 0), (8, .int 0), (7, .int 1), (6, .int 4), (0, .ref hT), (1, .int 0), (2, .ref kg), (3, .ref kv), (4, .ref kf), (5, .ref kb)]) hx hb dL_begins_37 hl (by decide) rfl (fun ls hl => ?_)
  refine lv_iconst (v := 0) hx hb dL_begins_39 (by decide) ?_
  refine lv_istore (lv' := [(10, .int 0), (9, .int 0), (8, .int 0), (7, .int 1), (6, .int 4), (0, .ref hT), (1, .int 0), (2, .ref kg), (3, .ref kv), (4, .ref kf), (5, .ref kb)]) hx hb dL_begins_40 hl (by decide) rfl (fun ls hl => ?_)
  refine lv_iload hx hb dL_begins_42 (lv_at hl 0 rfl) ?_
  refine lv_iload hx hb dL_begins_44 (lv_at hl 3 rfl) ?_
  refine lv_icmp_ge (tgt := 109) hx hb dL_begins_46 (by decide) (fun c1 => ?_) (fun c1 => ?_)
  · exact absurd c1 (by decide)
  · refine lv_iload hx hb dL_begins_49 (lv_at hl 1 rfl) ?_
    refine lv_iload hx hb dL_begins_51 (lv_at hl 2 rfl) ?_
    refine rd_S (As := [.int 0, .int 0]) (rest := []) ⟨hx, hb, hml, hown, hts⟩ (c_L_has l D cI cZ cJ 0 0) (va_cwS 2 hts gL_begins_L_has rfl rfl rfl (by decide +kernel) ⟨Nat.le_of_ble_eq_true rfl, Nat.le_of_ble_eq_true rfl⟩) (hP.sub (ws' := []) [] rfl) hK hN rfl hl.1 rfl (Nat.le_of_ble_eq_true rfl) dL_begins_53 ⟨Nat.le_of_ble_eq_true rfl, Nat.le_of_ble_eq_true rfl⟩ ?_
    refine k_top 0 (by decide) ?_
    refine lv_if_eq (tgt := 71) hx hb dL_begins_56 (by decide) (fun c2 => ?_) (fun c2 => ?_)
    · refine lv_iload hx hb dL_begins_71 (lv_at hl 1 rfl) ?_
      refine lv_iconst (v := 1) hx hb dL_begins_73 (by decide) ?_
      refine lv_iload hx hb dL_begins_74 (lv_at hl 2 rfl) ?_
      refine lv_ishl hx hb dL_begins_76 ?_
      refine k_top 1 (by decide) ?_
      refine lv_ior hx hb dL_begins_77 ?_
      refine k_top 1 (by decide) ?_
      refine lv_istore (lv' := [(9, .int 1), (10, .int 0), (8, .int 0), (7, .int 1), (6, .int 4), (0, .ref hT), (1, .int 0), (2, .ref kg), (3, .ref kv), (4, .ref kf), (5, .ref kb)]) hx hb dL_begins_78 hl (by decide) rfl (fun ls hl => ?_)
      refine lv_iload hx hb dL_begins_80 (lv_at hl 2 rfl) ?_
      refine lv_iconst (v := 1) hx hb dL_begins_82 (by decide) ?_
      refine lv_iadd hx hb dL_begins_83 ?_
      refine k_top 1 (by decide) ?_
      refine lv_iload_n hx hb dL_begins_84 rfl (lv_at hl 6 rfl) ?_
      refine lv_bipush (v := 9) hx hb dL_begins_85 (by decide) ?_
      refine lv_iconst (v := 2) hx hb dL_begins_87 (by decide) ?_
      refine lv_iload hx hb dL_begins_88 (lv_at hl 1 rfl) ?_
      refine lv_imul hx hb dL_begins_90 ?_
      refine k_top 0 (by decide) ?_
      refine lv_iadd hx hb dL_begins_91 ?_
      refine k_top 9 (by decide) ?_
      refine lv_ishr hx hb dL_begins_92 ?_
      refine k_top 0 (by decide) ?_
      refine lv_iconst (v := 3) hx hb dL_begins_93 (by decide) ?_
      refine rd_S (As := [.int 0, .int 3]) (rest := [.int 1]) ⟨hx, hb, hml, hown, hts⟩ (c_L_low l D cI cZ cJ 0 3 (by decide)) (va_cwS 2 hts gL_begins_L_low rfl rfl rfl (by decide +kernel) ⟨Nat.le_of_ble_eq_true rfl, Nat.le_of_ble_eq_true rfl⟩) (hP.sub (ws' := []) [] rfl) hK hN rfl hl.1 rfl (Nat.le_of_ble_eq_true rfl) dL_begins_94 ⟨Nat.le_of_ble_eq_true rfl, Nat.le_of_ble_eq_true rfl⟩ ?_
      refine k_top 0 (by decide) ?_
      refine lv_iadd hx hb dL_begins_97 ?_
      refine k_top 1 (by decide) ?_
      refine lv_iload hx hb dL_begins_98 (lv_at hl 4 rfl) ?_
      refine lv_irem hx hb dL_begins_100 (by decide) ?_
      refine k_top 1 (by decide) ?_
      refine lv_istore (lv' := [(8, .int 1), (9, .int 1), (10, .int 0), (7, .int 1), (6, .int 4), (0, .ref hT), (1, .int 0), (2, .ref kg), (3, .ref kv), (4, .ref kf), (5, .ref kb)]) hx hb dL_begins_101 hl (by decide) rfl (fun ls hl => ?_)
      refine lv_iinc (v := 1) (lv' := [(10, .int 1), (8, .int 1), (9, .int 1), (7, .int 1), (6, .int 4), (0, .ref hT), (1, .int 0), (2, .ref kg), (3, .ref kv), (4, .ref kf), (5, .ref kb)]) hx hb dL_begins_103 hl (k := 2) rfl (by decide) (by decide) rfl (fun ls hl => ?_)
      refine lv_goto (tgt := 42) hx hb dL_begins_106 (by decide) ?_
      refine lv_iload hx hb dL_begins_42 (lv_at hl 0 rfl) ?_
      refine lv_iload hx hb dL_begins_44 (lv_at hl 3 rfl) ?_
      refine lv_icmp_ge (tgt := 109) hx hb dL_begins_46 (by decide) (fun c3 => ?_) (fun c3 => ?_)
      · refine lv_iload hx hb dL_begins_109 (lv_at hl 2 rfl) ?_
        refine lv_iload hx hb dL_begins_111 (lv_at hl 1 rfl) ?_
        refine rd_S (As := [.int 1, .int 1]) (rest := []) ⟨hx, hb, hml, hown, hts⟩ (c_L_has l D cI cZ cJ 1 1) (va_cwS 2 hts gL_begins_L_has rfl rfl rfl (by decide +kernel) ⟨Nat.le_of_ble_eq_true rfl, Nat.le_of_ble_eq_true rfl⟩) (hP.sub (ws' := []) [] rfl) hK hN rfl hl.1 rfl (Nat.le_of_ble_eq_true rfl) dL_begins_113 ⟨Nat.le_of_ble_eq_true rfl, Nat.le_of_ble_eq_true rfl⟩ ?_
        refine k_top 0 (by decide) ?_
        refine lv_if_eq (tgt := 131) hx hb dL_begins_116 (by decide) (fun c4 => ?_) (fun c4 => ?_)
        · refine lv_iload hx hb dL_begins_131 (lv_at hl 1 rfl) ?_
          refine lv_istore (lv' := [(10, .int 1), (8, .int 1), (9, .int 1), (7, .int 1), (6, .int 4), (0, .ref hT), (1, .int 0), (2, .ref kg), (3, .ref kv), (4, .ref kf), (5, .ref kb)]) hx hb dL_begins_133 hl (by decide) rfl (fun ls hl => ?_)
          refine lv_iload hx hb dL_begins_135 (lv_at hl 1 rfl) ?_
          refine lv_iconst (v := 1) hx hb dL_begins_137 (by decide) ?_
          refine lv_iadd hx hb dL_begins_138 ?_
          refine k_top 2 (by decide) ?_
          refine lv_iload_n hx hb dL_begins_139 rfl (lv_at hl 6 rfl) ?_
          refine lv_bipush (v := 20) hx hb dL_begins_140 (by decide) ?_
          refine lv_ishr hx hb dL_begins_142 ?_
          refine k_top 0 (by decide) ?_
          refine lv_iconst (v := 3) hx hb dL_begins_143 (by decide) ?_
          refine rd_S (As := [.int 0, .int 3]) (rest := [.int 2]) ⟨hx, hb, hml, hown, hts⟩ (c_L_low l D cI cZ cJ 0 3 (by decide)) (va_cwS 2 hts gL_begins_L_low rfl rfl rfl (by decide +kernel) ⟨Nat.le_of_ble_eq_true rfl, Nat.le_of_ble_eq_true rfl⟩) (hP.sub (ws' := []) [] rfl) hK hN rfl hl.1 rfl (Nat.le_of_ble_eq_true rfl) dL_begins_144 ⟨Nat.le_of_ble_eq_true rfl, Nat.le_of_ble_eq_true rfl⟩ ?_
          refine k_top 0 (by decide) ?_
          refine lv_iadd hx hb dL_begins_147 ?_
          refine k_top 2 (by decide) ?_
          refine lv_iload hx hb dL_begins_148 (lv_at hl 4 rfl) ?_
          refine lv_irem hx hb dL_begins_150 (by decide) ?_
          refine k_top 2 (by decide) ?_
          refine lv_istore (lv' := [(8, .int 2), (10, .int 1), (9, .int 1), (7, .int 1), (6, .int 4), (0, .ref hT), (1, .int 0), (2, .ref kg), (3, .ref kv), (4, .ref kf), (5, .ref kb)]) hx hb dL_begins_151 hl (by decide) rfl (fun ls hl => ?_)
          refine lv_iload hx hb dL_begins_153 (lv_at hl 2 rfl) ?_
          refine lv_iload hx hb dL_begins_155 (lv_at hl 0 rfl) ?_
          refine rd_S (As := [.int 1, .int 2]) (rest := []) ⟨hx, hb, hml, hown, hts⟩ (c_L_has l D cI cZ cJ 1 2) (va_cwS 2 hts gL_begins_L_has rfl rfl rfl (by decide +kernel) ⟨Nat.le_of_ble_eq_true rfl, Nat.le_of_ble_eq_true rfl⟩) (hP.sub (ws' := []) [] rfl) hK hN rfl hl.1 rfl (Nat.le_of_ble_eq_true rfl) dL_begins_157 ⟨Nat.le_of_ble_eq_true rfl, Nat.le_of_ble_eq_true rfl⟩ ?_
          refine k_top 0 (by decide) ?_
          refine lv_if_ne (tgt := 170) hx hb dL_begins_160 (by decide) (fun c5 => ?_) (fun c5 => ?_)
          · exact absurd c5 (by decide)
          · refine lv_iload hx hb dL_begins_163 (lv_at hl 0 rfl) ?_
            refine lv_iload hx hb dL_begins_165 (lv_at hl 1 rfl) ?_
            refine lv_icmp_ne (tgt := 182) hx hb dL_begins_167 (by decide) (fun c6 => ?_) (fun c6 => ?_)
            · refine lv_aload_n hx hb dL_begins_182 rfl (lv_at hl 7 rfl) ?_
              refine lv_iconst (v := 0) hx hb dL_begins_183 (by decide) ?_
              refine lv_iconst (v := 1) hx hb dL_begins_184 (by decide) ?_
              refine k_iast (D := D) (j := 0) hx hb hK hP hD hS 4 0 rfl rfl (by decide) (by decide) (Nat.le_of_ble_eq_true rfl) dL_begins_185 (fun H locs hP hD hS => ?_)
              have hP : va_P D vwCl [cT hT hB hV a, cB hB hG tr, cA cI hG 1120 pg, cA cI hV 8 vv, cA cI kg 13 (upd g 0 1), cA cI kv 8 v, cA cI kf 60 f, cA cI kb 40 b] H := hP
              have hD : va_D A [cT hT hB hV a, cB hB hG tr, cA cI hG 1120 pg, cA cI hV 8 vv, cA cI kg 13 (upd g 0 1), cA cI kv 8 v, cA cI kf 60 f, cA cI kb 40 b] := hD
              refine lv_aload_n hx hb dL_begins_186 rfl (lv_at hl 7 rfl) ?_
              refine lv_iconst (v := 1) hx hb dL_begins_187 (by decide) ?_
              refine lv_iload hx hb dL_begins_188 (lv_at hl 4 rfl) ?_
              refine k_iast (D := D) (j := 1) hx hb hK hP hD hS 4 0 rfl rfl (by decide) (by decide) (Nat.le_of_ble_eq_true rfl) dL_begins_190 (fun H locs hP hD hS => ?_)
              have hP : va_P D vwCl [cT hT hB hV a, cB hB hG tr, cA cI hG 1120 pg, cA cI hV 8 vv, cA cI kg 13 (upd (upd g 0 1) 1 4), cA cI kv 8 v, cA cI kf 60 f, cA cI kb 40 b] H := hP
              have hD : va_D A [cT hT hB hV a, cB hB hG tr, cA cI hG 1120 pg, cA cI hV 8 vv, cA cI kg 13 (upd (upd g 0 1) 1 4), cA cI kv 8 v, cA cI kf 60 f, cA cI kb 40 b] := hD
              refine lv_aload_n hx hb dL_begins_191 rfl (lv_at hl 7 rfl) ?_
              refine lv_iconst (v := 2) hx hb dL_begins_192 (by decide) ?_
              refine lv_iload hx hb dL_begins_193 (lv_at hl 2 rfl) ?_
              refine k_iast (D := D) (j := 2) hx hb hK hP hD hS 4 0 rfl rfl (by decide) (by decide) (Nat.le_of_ble_eq_true rfl) dL_begins_195 (fun H locs hP hD hS => ?_)
              have hP : va_P D vwCl [cT hT hB hV a, cB hB hG tr, cA cI hG 1120 pg, cA cI hV 8 vv, cA cI kg 13 (upd (upd (upd g 0 1) 1 4) 2 1), cA cI kv 8 v, cA cI kf 60 f, cA cI kb 40 b] H := hP
              have hD : va_D A [cT hT hB hV a, cB hB hG tr, cA cI hG 1120 pg, cA cI hV 8 vv, cA cI kg 13 (upd (upd (upd g 0 1) 1 4) 2 1), cA cI kv 8 v, cA cI kf 60 f, cA cI kb 40 b] := hD
              refine lv_aload_n hx hb dL_begins_196 rfl (lv_at hl 7 rfl) ?_
              refine lv_iconst (v := 3) hx hb dL_begins_197 (by decide) ?_
              refine lv_iload hx hb dL_begins_198 (lv_at hl 1 rfl) ?_
              refine k_iast (D := D) (j := 3) hx hb hK hP hD hS 4 0 rfl rfl (by decide) (by decide) (Nat.le_of_ble_eq_true rfl) dL_begins_200 (fun H locs hP hD hS => ?_)
              have hP : va_P D vwCl [cT hT hB hV a, cB hB hG tr, cA cI hG 1120 pg, cA cI hV 8 vv, cA cI kg 13 (upd (upd (upd (upd g 0 1) 1 4) 2 1) 3 1), cA cI kv 8 v, cA cI kf 60 f, cA cI kb 40 b] H := hP
              have hD : va_D A [cT hT hB hV a, cB hB hG tr, cA cI hG 1120 pg, cA cI hV 8 vv, cA cI kg 13 (upd (upd (upd (upd g 0 1) 1 4) 2 1) 3 1), cA cI kv 8 v, cA cI kf 60 f, cA cI kb 40 b] := hD
              refine lv_aload_n hx hb dL_begins_201 rfl (lv_at hl 7 rfl) ?_
              refine lv_iconst (v := 4) hx hb dL_begins_202 (by decide) ?_
              refine lv_iload hx hb dL_begins_203 (lv_at hl 0 rfl) ?_
              refine k_iast (D := D) (j := 4) hx hb hK hP hD hS 4 0 rfl rfl (by decide) (by decide) (Nat.le_of_ble_eq_true rfl) dL_begins_205 (fun H locs hP hD hS => ?_)
              have hP : va_P D vwCl [cT hT hB hV a, cB hB hG tr, cA cI hG 1120 pg, cA cI hV 8 vv, cA cI kg 13 (upd (upd (upd (upd (upd g 0 1) 1 4) 2 1) 3 1) 4 2), cA cI kv 8 v, cA cI kf 60 f, cA cI kb 40 b] H := hP
              have hD : va_D A [cT hT hB hV a, cB hB hG tr, cA cI hG 1120 pg, cA cI hV 8 vv, cA cI kg 13 (upd (upd (upd (upd (upd g 0 1) 1 4) 2 1) 3 1) 4 2), cA cI kv 8 v, cA cI kf 60 f, cA cI kb 40 b] := hD
              refine lv_aload_n hx hb dL_begins_206 rfl (lv_at hl 7 rfl) ?_
              refine lv_iconst (v := 5) hx hb dL_begins_207 (by decide) ?_
              refine lv_iconst (v := 1) hx hb dL_begins_208 (by decide) ?_
              refine lv_iload hx hb dL_begins_209 (lv_at hl 4 rfl) ?_
              refine lv_ishl hx hb dL_begins_211 ?_
              refine k_top 16 (by decide) ?_
              refine lv_iconst (v := 1) hx hb dL_begins_212 (by decide) ?_
              refine lv_isub hx hb dL_begins_213 ?_
              refine k_top 15 (by decide) ?_
              refine k_iast (D := D) (j := 5) hx hb hK hP hD hS 4 0 rfl rfl (by decide) (by decide) (Nat.le_of_ble_eq_true rfl) dL_begins_214 (fun H locs hP hD hS => ?_)
              have hP : va_P D vwCl [cT hT hB hV a, cB hB hG tr, cA cI hG 1120 pg, cA cI hV 8 vv, cA cI kg 13 (upd (upd (upd (upd (upd (upd g 0 1) 1 4) 2 1) 3 1) 4 2) 5 15), cA cI kv 8 v, cA cI kf 60 f, cA cI kb 40 b] H := hP
              have hD : va_D A [cT hT hB hV a, cB hB hG tr, cA cI hG 1120 pg, cA cI hV 8 vv, cA cI kg 13 (upd (upd (upd (upd (upd (upd g 0 1) 1 4) 2 1) 3 1) 4 2) 5 15), cA cI kv 8 v, cA cI kf 60 f, cA cI kb 40 b] := hD
              refine lv_aload_n hx hb dL_begins_215 rfl (lv_at hl 7 rfl) ?_
              refine lv_bipush (v := 6) hx hb dL_begins_216 (by decide) ?_
              refine lv_iconst (v := 1) hx hb dL_begins_218 (by decide) ?_
              refine k_iast (D := D) (j := 6) hx hb hK hP hD hS 4 0 rfl rfl (by decide) (by decide) (Nat.le_of_ble_eq_true rfl) dL_begins_219 (fun H locs hP hD hS => ?_)
              have hP : va_P D vwCl [cT hT hB hV a, cB hB hG tr, cA cI hG 1120 pg, cA cI hV 8 vv, cA cI kg 13 (upd (upd (upd (upd (upd (upd (upd g 0 1) 1 4) 2 1) 3 1) 4 2) 5 15) 6 1), cA cI kv 8 v, cA cI kf 60 f, cA cI kb 40 b] H := hP
              have hD : va_D A [cT hT hB hV a, cB hB hG tr, cA cI hG 1120 pg, cA cI hV 8 vv, cA cI kg 13 (upd (upd (upd (upd (upd (upd (upd g 0 1) 1 4) 2 1) 3 1) 4 2) 5 15) 6 1), cA cI kv 8 v, cA cI kf 60 f, cA cI kb 40 b] := hD
              refine lv_aload_n hx hb dL_begins_220 rfl (lv_at hl 7 rfl) ?_
              refine lv_bipush (v := 7) hx hb dL_begins_221 (by decide) ?_
              refine lv_iconst (v := 0) hx hb dL_begins_223 (by decide) ?_
              refine k_iast (D := D) (j := 7) hx hb hK hP hD hS 4 0 rfl rfl (by decide) (by decide) (Nat.le_of_ble_eq_true rfl) dL_begins_224 (fun H locs hP hD hS => ?_)
              have hP : va_P D vwCl [cT hT hB hV a, cB hB hG tr, cA cI hG 1120 pg, cA cI hV 8 vv, cA cI kg 13 (upd (upd (upd (upd (upd (upd (upd (upd g 0 1) 1 4) 2 1) 3 1) 4 2) 5 15) 6 1) 7 0), cA cI kv 8 v, cA cI kf 60 f, cA cI kb 40 b] H := hP
              have hD : va_D A [cT hT hB hV a, cB hB hG tr, cA cI hG 1120 pg, cA cI hV 8 vv, cA cI kg 13 (upd (upd (upd (upd (upd (upd (upd (upd g 0 1) 1 4) 2 1) 3 1) 4 2) 5 15) 6 1) 7 0), cA cI kv 8 v, cA cI kf 60 f, cA cI kb 40 b] := hD
              refine lv_aload_n hx hb dL_begins_225 rfl (lv_at hl 7 rfl) ?_
              refine lv_bipush (v := 8) hx hb dL_begins_226 (by decide) ?_
              refine lv_iconst (v := 0) hx hb dL_begins_228 (by decide) ?_
              refine k_iast (D := D) (j := 8) hx hb hK hP hD hS 4 0 rfl rfl (by decide) (by decide) (Nat.le_of_ble_eq_true rfl) dL_begins_229 (fun H locs hP hD hS => ?_)
              have hP : va_P D vwCl [cT hT hB hV a, cB hB hG tr, cA cI hG 1120 pg, cA cI hV 8 vv, cA cI kg 13 (upd (upd (upd (upd (upd (upd (upd (upd (upd g 0 1) 1 4) 2 1) 3 1) 4 2) 5 15) 6 1) 7 0) 8 0), cA cI kv 8 v, cA cI kf 60 f, cA cI kb 40 b] H := hP
              have hD : va_D A [cT hT hB hV a, cB hB hG tr, cA cI hG 1120 pg, cA cI hV 8 vv, cA cI kg 13 (upd (upd (upd (upd (upd (upd (upd (upd (upd g 0 1) 1 4) 2 1) 3 1) 4 2) 5 15) 6 1) 7 0) 8 0), cA cI kv 8 v, cA cI kf 60 f, cA cI kb 40 b] := hD
              refine lv_bipush (v := 9) hx hb dL_begins_230 (by decide) ?_
              refine lv_istore (lv' := [(11, .int 9), (8, .int 2), (10, .int 1), (9, .int 1), (7, .int 1), (6, .int 4), (0, .ref hT), (1, .int 0), (2, .ref kg), (3, .ref kv), (4, .ref kf), (5, .ref kb)]) hx hb dL_begins_232 hl (by decide) rfl (fun ls hl => ?_)
              refine lv_iload hx hb dL_begins_234 (lv_at hl 0 rfl) ?_
              refine lv_bipush (v := 13) hx hb dL_begins_236 (by decide) ?_
              refine lv_icmp_ge (tgt := 252) hx hb dL_begins_238 (by decide) (fun c7 => ?_) (fun c7 => ?_)
              · exact absurd c7 (by decide)
              · refine lv_aload_n hx hb dL_begins_241 rfl (lv_at hl 8 rfl) ?_
                refine lv_iload hx hb dL_begins_242 (lv_at hl 0 rfl) ?_
                refine lv_iconst (v := (-1)) hx hb dL_begins_244 (by decide) ?_
                refine k_iast (D := D) (j := 9) hx hb hK hP hD hS 4 0 rfl rfl (by decide) (by decide) (Nat.le_of_ble_eq_true rfl) dL_begins_245 (fun H locs hP hD hS => ?_)
                have hP : va_P D vwCl [cT hT hB hV a, cB hB hG tr, cA cI hG 1120 pg, cA cI hV 8 vv, cA cI kg 13 (upd (upd (upd (upd (upd (upd (upd (upd (upd (upd g 0 1) 1 4) 2 1) 3 1) 4 2) 5 15) 6 1) 7 0) 8 0) 9 (-1)), cA cI kv 8 v, cA cI kf 60 f, cA cI kb 40 b] H := hP
                have hD : va_D A [cT hT hB hV a, cB hB hG tr, cA cI hG 1120 pg, cA cI hV 8 vv, cA cI kg 13 (upd (upd (upd (upd (upd (upd (upd (upd (upd (upd g 0 1) 1 4) 2 1) 3 1) 4 2) 5 15) 6 1) 7 0) 8 0) 9 (-1)), cA cI kv 8 v, cA cI kf 60 f, cA cI kb 40 b] := hD
                refine lv_iinc (v := 10) (lv' := [(11, .int 10), (8, .int 2), (10, .int 1), (9, .int 1), (7, .int 1), (6, .int 4), (0, .ref hT), (1, .int 0), (2, .ref kg), (3, .ref kv), (4, .ref kf), (5, .ref kb)]) hx hb dL_begins_246 hl (k := 0) rfl (by decide) (by decide) rfl (fun ls hl => ?_)
                refine lv_goto (tgt := 234) hx hb dL_begins_249 (by decide) ?_
                refine lv_iload hx hb dL_begins_234 (lv_at hl 0 rfl) ?_
                refine lv_bipush (v := 13) hx hb dL_begins_236 (by decide) ?_
                refine lv_icmp_ge (tgt := 252) hx hb dL_begins_238 (by decide) (fun c8 => ?_) (fun c8 => ?_)
                · exact absurd c8 (by decide)
                · refine lv_aload_n hx hb dL_begins_241 rfl (lv_at hl 8 rfl) ?_
                  refine lv_iload hx hb dL_begins_242 (lv_at hl 0 rfl) ?_
                  refine lv_iconst (v := (-1)) hx hb dL_begins_244 (by decide) ?_
                  refine k_iast (D := D) (j := 10) hx hb hK hP hD hS 4 0 rfl rfl (by decide) (by decide) (Nat.le_of_ble_eq_true rfl) dL_begins_245 (fun H locs hP hD hS => ?_)
                  have hP : va_P D vwCl [cT hT hB hV a, cB hB hG tr, cA cI hG 1120 pg, cA cI hV 8 vv, cA cI kg 13 (upd (upd (upd (upd (upd (upd (upd (upd (upd (upd (upd g 0 1) 1 4) 2 1) 3 1) 4 2) 5 15) 6 1) 7 0) 8 0) 9 (-1)) 10 (-1)), cA cI kv 8 v, cA cI kf 60 f, cA cI kb 40 b] H := hP
                  have hD : va_D A [cT hT hB hV a, cB hB hG tr, cA cI hG 1120 pg, cA cI hV 8 vv, cA cI kg 13 (upd (upd (upd (upd (upd (upd (upd (upd (upd (upd (upd g 0 1) 1 4) 2 1) 3 1) 4 2) 5 15) 6 1) 7 0) 8 0) 9 (-1)) 10 (-1)), cA cI kv 8 v, cA cI kf 60 f, cA cI kb 40 b] := hD
                  refine lv_iinc (v := 11) (lv' := [(11, .int 11), (8, .int 2), (10, .int 1), (9, .int 1), (7, .int 1), (6, .int 4), (0, .ref hT), (1, .int 0), (2, .ref kg), (3, .ref kv), (4, .ref kf), (5, .ref kb)]) hx hb dL_begins_246 hl (k := 0) rfl (by decide) (by decide) rfl (fun ls hl => ?_)
                  refine lv_goto (tgt := 234) hx hb dL_begins_249 (by decide) ?_
                  refine lv_iload hx hb dL_begins_234 (lv_at hl 0 rfl) ?_
                  refine lv_bipush (v := 13) hx hb dL_begins_236 (by decide) ?_
                  refine lv_icmp_ge (tgt := 252) hx hb dL_begins_238 (by decide) (fun c9 => ?_) (fun c9 => ?_)
                  · exact absurd c9 (by decide)
                  · refine lv_aload_n hx hb dL_begins_241 rfl (lv_at hl 8 rfl) ?_
                    refine lv_iload hx hb dL_begins_242 (lv_at hl 0 rfl) ?_
                    refine lv_iconst (v := (-1)) hx hb dL_begins_244 (by decide) ?_
                    refine k_iast (D := D) (j := 11) hx hb hK hP hD hS 4 0 rfl rfl (by decide) (by decide) (Nat.le_of_ble_eq_true rfl) dL_begins_245 (fun H locs hP hD hS => ?_)
                    have hP : va_P D vwCl [cT hT hB hV a, cB hB hG tr, cA cI hG 1120 pg, cA cI hV 8 vv, cA cI kg 13 (upd (upd (upd (upd (upd (upd (upd (upd (upd (upd (upd (upd g 0 1) 1 4) 2 1) 3 1) 4 2) 5 15) 6 1) 7 0) 8 0) 9 (-1)) 10 (-1)) 11 (-1)), cA cI kv 8 v, cA cI kf 60 f, cA cI kb 40 b] H := hP
                    have hD : va_D A [cT hT hB hV a, cB hB hG tr, cA cI hG 1120 pg, cA cI hV 8 vv, cA cI kg 13 (upd (upd (upd (upd (upd (upd (upd (upd (upd (upd (upd (upd g 0 1) 1 4) 2 1) 3 1) 4 2) 5 15) 6 1) 7 0) 8 0) 9 (-1)) 10 (-1)) 11 (-1)), cA cI kv 8 v, cA cI kf 60 f, cA cI kb 40 b] := hD
                    refine lv_iinc (v := 12) (lv' := [(11, .int 12), (8, .int 2), (10, .int 1), (9, .int 1), (7, .int 1), (6, .int 4), (0, .ref hT), (1, .int 0), (2, .ref kg), (3, .ref kv), (4, .ref kf), (5, .ref kb)]) hx hb dL_begins_246 hl (k := 0) rfl (by decide) (by decide) rfl (fun ls hl => ?_)
                    refine lv_goto (tgt := 234) hx hb dL_begins_249 (by decide) ?_
                    refine lv_iload hx hb dL_begins_234 (lv_at hl 0 rfl) ?_
                    refine lv_bipush (v := 13) hx hb dL_begins_236 (by decide) ?_
                    refine lv_icmp_ge (tgt := 252) hx hb dL_begins_238 (by decide) (fun c10 => ?_) (fun c10 => ?_)
                    · exact absurd c10 (by decide)
                    · refine lv_aload_n hx hb dL_begins_241 rfl (lv_at hl 8 rfl) ?_
                      refine lv_iload hx hb dL_begins_242 (lv_at hl 0 rfl) ?_
                      refine lv_iconst (v := (-1)) hx hb dL_begins_244 (by decide) ?_
                      refine k_iast (D := D) (j := 12) hx hb hK hP hD hS 4 0 rfl rfl (by decide) (by decide) (Nat.le_of_ble_eq_true rfl) dL_begins_245 (fun H locs hP hD hS => ?_)
                      have hP : va_P D vwCl [cT hT hB hV a, cB hB hG tr, cA cI hG 1120 pg, cA cI hV 8 vv, cA cI kg 13 (upd (upd (upd (upd (upd (upd (upd (upd (upd (upd (upd (upd (upd g 0 1) 1 4) 2 1) 3 1) 4 2) 5 15) 6 1) 7 0) 8 0) 9 (-1)) 10 (-1)) 11 (-1)) 12 (-1)), cA cI kv 8 v, cA cI kf 60 f, cA cI kb 40 b] H := hP
                      have hD : va_D A [cT hT hB hV a, cB hB hG tr, cA cI hG 1120 pg, cA cI hV 8 vv, cA cI kg 13 (upd (upd (upd (upd (upd (upd (upd (upd (upd (upd (upd (upd (upd g 0 1) 1 4) 2 1) 3 1) 4 2) 5 15) 6 1) 7 0) 8 0) 9 (-1)) 10 (-1)) 11 (-1)) 12 (-1)), cA cI kv 8 v, cA cI kf 60 f, cA cI kb 40 b] := hD
                      refine lv_iinc (v := 13) (lv' := [(11, .int 13), (8, .int 2), (10, .int 1), (9, .int 1), (7, .int 1), (6, .int 4), (0, .ref hT), (1, .int 0), (2, .ref kg), (3, .ref kv), (4, .ref kf), (5, .ref kb)]) hx hb dL_begins_246 hl (k := 0) rfl (by decide) (by decide) rfl (fun ls hl => ?_)
                      refine lv_goto (tgt := 234) hx hb dL_begins_249 (by decide) ?_
                      refine lv_iload hx hb dL_begins_234 (lv_at hl 0 rfl) ?_
                      refine lv_bipush (v := 13) hx hb dL_begins_236 (by decide) ?_
                      refine lv_icmp_ge (tgt := 252) hx hb dL_begins_238 (by decide) (fun c11 => ?_) (fun c11 => ?_)
                      · refine lv_iconst (v := 0) hx hb dL_begins_252 (by decide) ?_
                        refine lv_istore (lv' := [(11, .int 0), (8, .int 2), (10, .int 1), (9, .int 1), (7, .int 1), (6, .int 4), (0, .ref hT), (1, .int 0), (2, .ref kg), (3, .ref kv), (4, .ref kf), (5, .ref kb)]) hx hb dL_begins_253 hl (by decide) rfl (fun ls hl => ?_)
                        refine lv_iload hx hb dL_begins_255 (lv_at hl 0 rfl) ?_
                        refine lv_bipush (v := 8) hx hb dL_begins_257 (by decide) ?_
                        refine lv_icmp_ge (tgt := 273) hx hb dL_begins_259 (by decide) (fun c12 => ?_) (fun c12 => ?_)
                        · exact absurd c12 (by decide)
                        · refine lv_aload_n hx hb dL_begins_262 rfl (lv_at hl 9 rfl) ?_
                          refine lv_iload hx hb dL_begins_263 (lv_at hl 0 rfl) ?_
                          refine lv_iconst (v := (-1)) hx hb dL_begins_265 (by decide) ?_
                          refine k_iast (D := D) (j := 0) hx hb hK hP hD hS 5 0 rfl rfl (by decide) (by decide) (Nat.le_of_ble_eq_true rfl) dL_begins_266 (fun H locs hP hD hS => ?_)
                          have hP : va_P D vwCl [cT hT hB hV a, cB hB hG tr, cA cI hG 1120 pg, cA cI hV 8 vv, cA cI kg 13 (upd (upd (upd (upd (upd (upd (upd (upd (upd (upd (upd (upd (upd g 0 1) 1 4) 2 1) 3 1) 4 2) 5 15) 6 1) 7 0) 8 0) 9 (-1)) 10 (-1)) 11 (-1)) 12 (-1)), cA cI kv 8 (upd v 0 (-1)), cA cI kf 60 f, cA cI kb 40 b] H := hP
                          have hD : va_D A [cT hT hB hV a, cB hB hG tr, cA cI hG 1120 pg, cA cI hV 8 vv, cA cI kg 13 (upd (upd (upd (upd (upd (upd (upd (upd (upd (upd (upd (upd (upd g 0 1) 1 4) 2 1) 3 1) 4 2) 5 15) 6 1) 7 0) 8 0) 9 (-1)) 10 (-1)) 11 (-1)) 12 (-1)), cA cI kv 8 (upd v 0 (-1)), cA cI kf 60 f, cA cI kb 40 b] := hD
                          refine lv_iinc (v := 1) (lv' := [(11, .int 1), (8, .int 2), (10, .int 1), (9, .int 1), (7, .int 1), (6, .int 4), (0, .ref hT), (1, .int 0), (2, .ref kg), (3, .ref kv), (4, .ref kf), (5, .ref kb)]) hx hb dL_begins_267 hl (k := 0) rfl (by decide) (by decide) rfl (fun ls hl => ?_)
                          refine lv_goto (tgt := 255) hx hb dL_begins_270 (by decide) ?_
                          refine lv_iload hx hb dL_begins_255 (lv_at hl 0 rfl) ?_
                          refine lv_bipush (v := 8) hx hb dL_begins_257 (by decide) ?_
                          refine lv_icmp_ge (tgt := 273) hx hb dL_begins_259 (by decide) (fun c13 => ?_) (fun c13 => ?_)
                          · exact absurd c13 (by decide)
                          · refine lv_aload_n hx hb dL_begins_262 rfl (lv_at hl 9 rfl) ?_
                            refine lv_iload hx hb dL_begins_263 (lv_at hl 0 rfl) ?_
                            refine lv_iconst (v := (-1)) hx hb dL_begins_265 (by decide) ?_
                            refine k_iast (D := D) (j := 1) hx hb hK hP hD hS 5 0 rfl rfl (by decide) (by decide) (Nat.le_of_ble_eq_true rfl) dL_begins_266 (fun H locs hP hD hS => ?_)
                            have hP : va_P D vwCl [cT hT hB hV a, cB hB hG tr, cA cI hG 1120 pg, cA cI hV 8 vv, cA cI kg 13 (upd (upd (upd (upd (upd (upd (upd (upd (upd (upd (upd (upd (upd g 0 1) 1 4) 2 1) 3 1) 4 2) 5 15) 6 1) 7 0) 8 0) 9 (-1)) 10 (-1)) 11 (-1)) 12 (-1)), cA cI kv 8 (upd (upd v 0 (-1)) 1 (-1)), cA cI kf 60 f, cA cI kb 40 b] H := hP
                            have hD : va_D A [cT hT hB hV a, cB hB hG tr, cA cI hG 1120 pg, cA cI hV 8 vv, cA cI kg 13 (upd (upd (upd (upd (upd (upd (upd (upd (upd (upd (upd (upd (upd g 0 1) 1 4) 2 1) 3 1) 4 2) 5 15) 6 1) 7 0) 8 0) 9 (-1)) 10 (-1)) 11 (-1)) 12 (-1)), cA cI kv 8 (upd (upd v 0 (-1)) 1 (-1)), cA cI kf 60 f, cA cI kb 40 b] := hD
                            refine lv_iinc (v := 2) (lv' := [(11, .int 2), (8, .int 2), (10, .int 1), (9, .int 1), (7, .int 1), (6, .int 4), (0, .ref hT), (1, .int 0), (2, .ref kg), (3, .ref kv), (4, .ref kf), (5, .ref kb)]) hx hb dL_begins_267 hl (k := 0) rfl (by decide) (by decide) rfl (fun ls hl => ?_)
                            refine lv_goto (tgt := 255) hx hb dL_begins_270 (by decide) ?_
                            refine lv_iload hx hb dL_begins_255 (lv_at hl 0 rfl) ?_
                            refine lv_bipush (v := 8) hx hb dL_begins_257 (by decide) ?_
                            refine lv_icmp_ge (tgt := 273) hx hb dL_begins_259 (by decide) (fun c14 => ?_) (fun c14 => ?_)
                            · exact absurd c14 (by decide)
                            · refine lv_aload_n hx hb dL_begins_262 rfl (lv_at hl 9 rfl) ?_
                              refine lv_iload hx hb dL_begins_263 (lv_at hl 0 rfl) ?_
                              refine lv_iconst (v := (-1)) hx hb dL_begins_265 (by decide) ?_
                              refine k_iast (D := D) (j := 2) hx hb hK hP hD hS 5 0 rfl rfl (by decide) (by decide) (Nat.le_of_ble_eq_true rfl) dL_begins_266 (fun H locs hP hD hS => ?_)
                              have hP : va_P D vwCl [cT hT hB hV a, cB hB hG tr, cA cI hG 1120 pg, cA cI hV 8 vv, cA cI kg 13 (upd (upd (upd (upd (upd (upd (upd (upd (upd (upd (upd (upd (upd g 0 1) 1 4) 2 1) 3 1) 4 2) 5 15) 6 1) 7 0) 8 0) 9 (-1)) 10 (-1)) 11 (-1)) 12 (-1)), cA cI kv 8 (upd (upd (upd v 0 (-1)) 1 (-1)) 2 (-1)), cA cI kf 60 f, cA cI kb 40 b] H := hP
                              have hD : va_D A [cT hT hB hV a, cB hB hG tr, cA cI hG 1120 pg, cA cI hV 8 vv, cA cI kg 13 (upd (upd (upd (upd (upd (upd (upd (upd (upd (upd (upd (upd (upd g 0 1) 1 4) 2 1) 3 1) 4 2) 5 15) 6 1) 7 0) 8 0) 9 (-1)) 10 (-1)) 11 (-1)) 12 (-1)), cA cI kv 8 (upd (upd (upd v 0 (-1)) 1 (-1)) 2 (-1)), cA cI kf 60 f, cA cI kb 40 b] := hD
                              refine lv_iinc (v := 3) (lv' := [(11, .int 3), (8, .int 2), (10, .int 1), (9, .int 1), (7, .int 1), (6, .int 4), (0, .ref hT), (1, .int 0), (2, .ref kg), (3, .ref kv), (4, .ref kf), (5, .ref kb)]) hx hb dL_begins_267 hl (k := 0) rfl (by decide) (by decide) rfl (fun ls hl => ?_)
                              refine lv_goto (tgt := 255) hx hb dL_begins_270 (by decide) ?_
                              refine lv_iload hx hb dL_begins_255 (lv_at hl 0 rfl) ?_
                              refine lv_bipush (v := 8) hx hb dL_begins_257 (by decide) ?_
                              refine lv_icmp_ge (tgt := 273) hx hb dL_begins_259 (by decide) (fun c15 => ?_) (fun c15 => ?_)
                              · exact absurd c15 (by decide)
                              · refine lv_aload_n hx hb dL_begins_262 rfl (lv_at hl 9 rfl) ?_
                                refine lv_iload hx hb dL_begins_263 (lv_at hl 0 rfl) ?_
                                refine lv_iconst (v := (-1)) hx hb dL_begins_265 (by decide) ?_
                                refine k_iast (D := D) (j := 3) hx hb hK hP hD hS 5 0 rfl rfl (by decide) (by decide) (Nat.le_of_ble_eq_true rfl) dL_begins_266 (fun H locs hP hD hS => ?_)
                                have hP : va_P D vwCl [cT hT hB hV a, cB hB hG tr, cA cI hG 1120 pg, cA cI hV 8 vv, cA cI kg 13 (upd (upd (upd (upd (upd (upd (upd (upd (upd (upd (upd (upd (upd g 0 1) 1 4) 2 1) 3 1) 4 2) 5 15) 6 1) 7 0) 8 0) 9 (-1)) 10 (-1)) 11 (-1)) 12 (-1)), cA cI kv 8 (upd (upd (upd (upd v 0 (-1)) 1 (-1)) 2 (-1)) 3 (-1)), cA cI kf 60 f, cA cI kb 40 b] H := hP
                                have hD : va_D A [cT hT hB hV a, cB hB hG tr, cA cI hG 1120 pg, cA cI hV 8 vv, cA cI kg 13 (upd (upd (upd (upd (upd (upd (upd (upd (upd (upd (upd (upd (upd g 0 1) 1 4) 2 1) 3 1) 4 2) 5 15) 6 1) 7 0) 8 0) 9 (-1)) 10 (-1)) 11 (-1)) 12 (-1)), cA cI kv 8 (upd (upd (upd (upd v 0 (-1)) 1 (-1)) 2 (-1)) 3 (-1)), cA cI kf 60 f, cA cI kb 40 b] := hD
                                refine lv_iinc (v := 4) (lv' := [(11, .int 4), (8, .int 2), (10, .int 1), (9, .int 1), (7, .int 1), (6, .int 4), (0, .ref hT), (1, .int 0), (2, .ref kg), (3, .ref kv), (4, .ref kf), (5, .ref kb)]) hx hb dL_begins_267 hl (k := 0) rfl (by decide) (by decide) rfl (fun ls hl => ?_)
                                refine lv_goto (tgt := 255) hx hb dL_begins_270 (by decide) ?_
                                refine lv_iload hx hb dL_begins_255 (lv_at hl 0 rfl) ?_
                                refine lv_bipush (v := 8) hx hb dL_begins_257 (by decide) ?_
                                refine lv_icmp_ge (tgt := 273) hx hb dL_begins_259 (by decide) (fun c16 => ?_) (fun c16 => ?_)
                                · exact absurd c16 (by decide)
                                · refine lv_aload_n hx hb dL_begins_262 rfl (lv_at hl 9 rfl) ?_
                                  refine lv_iload hx hb dL_begins_263 (lv_at hl 0 rfl) ?_
                                  refine lv_iconst (v := (-1)) hx hb dL_begins_265 (by decide) ?_
                                  refine k_iast (D := D) (j := 4) hx hb hK hP hD hS 5 0 rfl rfl (by decide) (by decide) (Nat.le_of_ble_eq_true rfl) dL_begins_266 (fun H locs hP hD hS => ?_)
                                  have hP : va_P D vwCl [cT hT hB hV a, cB hB hG tr, cA cI hG 1120 pg, cA cI hV 8 vv, cA cI kg 13 (upd (upd (upd (upd (upd (upd (upd (upd (upd (upd (upd (upd (upd g 0 1) 1 4) 2 1) 3 1) 4 2) 5 15) 6 1) 7 0) 8 0) 9 (-1)) 10 (-1)) 11 (-1)) 12 (-1)), cA cI kv 8 (upd (upd (upd (upd (upd v 0 (-1)) 1 (-1)) 2 (-1)) 3 (-1)) 4 (-1)), cA cI kf 60 f, cA cI kb 40 b] H := hP
                                  have hD : va_D A [cT hT hB hV a, cB hB hG tr, cA cI hG 1120 pg, cA cI hV 8 vv, cA cI kg 13 (upd (upd (upd (upd (upd (upd (upd (upd (upd (upd (upd (upd (upd g 0 1) 1 4) 2 1) 3 1) 4 2) 5 15) 6 1) 7 0) 8 0) 9 (-1)) 10 (-1)) 11 (-1)) 12 (-1)), cA cI kv 8 (upd (upd (upd (upd (upd v 0 (-1)) 1 (-1)) 2 (-1)) 3 (-1)) 4 (-1)), cA cI kf 60 f, cA cI kb 40 b] := hD
                                  refine lv_iinc (v := 5) (lv' := [(11, .int 5), (8, .int 2), (10, .int 1), (9, .int 1), (7, .int 1), (6, .int 4), (0, .ref hT), (1, .int 0), (2, .ref kg), (3, .ref kv), (4, .ref kf), (5, .ref kb)]) hx hb dL_begins_267 hl (k := 0) rfl (by decide) (by decide) rfl (fun ls hl => ?_)
                                  refine lv_goto (tgt := 255) hx hb dL_begins_270 (by decide) ?_
                                  refine lv_iload hx hb dL_begins_255 (lv_at hl 0 rfl) ?_
                                  refine lv_bipush (v := 8) hx hb dL_begins_257 (by decide) ?_
                                  refine lv_icmp_ge (tgt := 273) hx hb dL_begins_259 (by decide) (fun c17 => ?_) (fun c17 => ?_)
                                  · exact absurd c17 (by decide)
                                  · refine lv_aload_n hx hb dL_begins_262 rfl (lv_at hl 9 rfl) ?_
                                    refine lv_iload hx hb dL_begins_263 (lv_at hl 0 rfl) ?_
                                    refine lv_iconst (v := (-1)) hx hb dL_begins_265 (by decide) ?_
                                    refine k_iast (D := D) (j := 5) hx hb hK hP hD hS 5 0 rfl rfl (by decide) (by decide) (Nat.le_of_ble_eq_true rfl) dL_begins_266 (fun H locs hP hD hS => ?_)
                                    have hP : va_P D vwCl [cT hT hB hV a, cB hB hG tr, cA cI hG 1120 pg, cA cI hV 8 vv, cA cI kg 13 (upd (upd (upd (upd (upd (upd (upd (upd (upd (upd (upd (upd (upd g 0 1) 1 4) 2 1) 3 1) 4 2) 5 15) 6 1) 7 0) 8 0) 9 (-1)) 10 (-1)) 11 (-1)) 12 (-1)), cA cI kv 8 (upd (upd (upd (upd (upd (upd v 0 (-1)) 1 (-1)) 2 (-1)) 3 (-1)) 4 (-1)) 5 (-1)), cA cI kf 60 f, cA cI kb 40 b] H := hP
                                    have hD : va_D A [cT hT hB hV a, cB hB hG tr, cA cI hG 1120 pg, cA cI hV 8 vv, cA cI kg 13 (upd (upd (upd (upd (upd (upd (upd (upd (upd (upd (upd (upd (upd g 0 1) 1 4) 2 1) 3 1) 4 2) 5 15) 6 1) 7 0) 8 0) 9 (-1)) 10 (-1)) 11 (-1)) 12 (-1)), cA cI kv 8 (upd (upd (upd (upd (upd (upd v 0 (-1)) 1 (-1)) 2 (-1)) 3 (-1)) 4 (-1)) 5 (-1)), cA cI kf 60 f, cA cI kb 40 b] := hD
                                    refine lv_iinc (v := 6) (lv' := [(11, .int 6), (8, .int 2), (10, .int 1), (9, .int 1), (7, .int 1), (6, .int 4), (0, .ref hT), (1, .int 0), (2, .ref kg), (3, .ref kv), (4, .ref kf), (5, .ref kb)]) hx hb dL_begins_267 hl (k := 0) rfl (by decide) (by decide) rfl (fun ls hl => ?_)
                                    refine lv_goto (tgt := 255) hx hb dL_begins_270 (by decide) ?_
                                    refine lv_iload hx hb dL_begins_255 (lv_at hl 0 rfl) ?_
                                    refine lv_bipush (v := 8) hx hb dL_begins_257 (by decide) ?_
                                    refine lv_icmp_ge (tgt := 273) hx hb dL_begins_259 (by decide) (fun c18 => ?_) (fun c18 => ?_)
                                    · exact absurd c18 (by decide)
                                    · refine lv_aload_n hx hb dL_begins_262 rfl (lv_at hl 9 rfl) ?_
                                      refine lv_iload hx hb dL_begins_263 (lv_at hl 0 rfl) ?_
                                      refine lv_iconst (v := (-1)) hx hb dL_begins_265 (by decide) ?_
                                      refine k_iast (D := D) (j := 6) hx hb hK hP hD hS 5 0 rfl rfl (by decide) (by decide) (Nat.le_of_ble_eq_true rfl) dL_begins_266 (fun H locs hP hD hS => ?_)
                                      have hP : va_P D vwCl [cT hT hB hV a, cB hB hG tr, cA cI hG 1120 pg, cA cI hV 8 vv, cA cI kg 13 (upd (upd (upd (upd (upd (upd (upd (upd (upd (upd (upd (upd (upd g 0 1) 1 4) 2 1) 3 1) 4 2) 5 15) 6 1) 7 0) 8 0) 9 (-1)) 10 (-1)) 11 (-1)) 12 (-1)), cA cI kv 8 (upd (upd (upd (upd (upd (upd (upd v 0 (-1)) 1 (-1)) 2 (-1)) 3 (-1)) 4 (-1)) 5 (-1)) 6 (-1)), cA cI kf 60 f, cA cI kb 40 b] H := hP
                                      have hD : va_D A [cT hT hB hV a, cB hB hG tr, cA cI hG 1120 pg, cA cI hV 8 vv, cA cI kg 13 (upd (upd (upd (upd (upd (upd (upd (upd (upd (upd (upd (upd (upd g 0 1) 1 4) 2 1) 3 1) 4 2) 5 15) 6 1) 7 0) 8 0) 9 (-1)) 10 (-1)) 11 (-1)) 12 (-1)), cA cI kv 8 (upd (upd (upd (upd (upd (upd (upd v 0 (-1)) 1 (-1)) 2 (-1)) 3 (-1)) 4 (-1)) 5 (-1)) 6 (-1)), cA cI kf 60 f, cA cI kb 40 b] := hD
                                      refine lv_iinc (v := 7) (lv' := [(11, .int 7), (8, .int 2), (10, .int 1), (9, .int 1), (7, .int 1), (6, .int 4), (0, .ref hT), (1, .int 0), (2, .ref kg), (3, .ref kv), (4, .ref kf), (5, .ref kb)]) hx hb dL_begins_267 hl (k := 0) rfl (by decide) (by decide) rfl (fun ls hl => ?_)
                                      refine lv_goto (tgt := 255) hx hb dL_begins_270 (by decide) ?_
                                      refine lv_iload hx hb dL_begins_255 (lv_at hl 0 rfl) ?_
                                      refine lv_bipush (v := 8) hx hb dL_begins_257 (by decide) ?_
                                      refine lv_icmp_ge (tgt := 273) hx hb dL_begins_259 (by decide) (fun c19 => ?_) (fun c19 => ?_)
                                      · exact absurd c19 (by decide)
                                      · refine lv_aload_n hx hb dL_begins_262 rfl (lv_at hl 9 rfl) ?_
                                        refine lv_iload hx hb dL_begins_263 (lv_at hl 0 rfl) ?_
                                        refine lv_iconst (v := (-1)) hx hb dL_begins_265 (by decide) ?_
                                        refine k_iast (D := D) (j := 7) hx hb hK hP hD hS 5 0 rfl rfl (by decide) (by decide) (Nat.le_of_ble_eq_true rfl) dL_begins_266 (fun H locs hP hD hS => ?_)
                                        have hP : va_P D vwCl [cT hT hB hV a, cB hB hG tr, cA cI hG 1120 pg, cA cI hV 8 vv, cA cI kg 13 (upd (upd (upd (upd (upd (upd (upd (upd (upd (upd (upd (upd (upd g 0 1) 1 4) 2 1) 3 1) 4 2) 5 15) 6 1) 7 0) 8 0) 9 (-1)) 10 (-1)) 11 (-1)) 12 (-1)), cA cI kv 8 (upd (upd (upd (upd (upd (upd (upd (upd v 0 (-1)) 1 (-1)) 2 (-1)) 3 (-1)) 4 (-1)) 5 (-1)) 6 (-1)) 7 (-1)), cA cI kf 60 f, cA cI kb 40 b] H := hP
                                        have hD : va_D A [cT hT hB hV a, cB hB hG tr, cA cI hG 1120 pg, cA cI hV 8 vv, cA cI kg 13 (upd (upd (upd (upd (upd (upd (upd (upd (upd (upd (upd (upd (upd g 0 1) 1 4) 2 1) 3 1) 4 2) 5 15) 6 1) 7 0) 8 0) 9 (-1)) 10 (-1)) 11 (-1)) 12 (-1)), cA cI kv 8 (upd (upd (upd (upd (upd (upd (upd (upd v 0 (-1)) 1 (-1)) 2 (-1)) 3 (-1)) 4 (-1)) 5 (-1)) 6 (-1)) 7 (-1)), cA cI kf 60 f, cA cI kb 40 b] := hD
                                        refine lv_iinc (v := 8) (lv' := [(11, .int 8), (8, .int 2), (10, .int 1), (9, .int 1), (7, .int 1), (6, .int 4), (0, .ref hT), (1, .int 0), (2, .ref kg), (3, .ref kv), (4, .ref kf), (5, .ref kb)]) hx hb dL_begins_267 hl (k := 0) rfl (by decide) (by decide) rfl (fun ls hl => ?_)
                                        refine lv_goto (tgt := 255) hx hb dL_begins_270 (by decide) ?_
                                        refine lv_iload hx hb dL_begins_255 (lv_at hl 0 rfl) ?_
                                        refine lv_bipush (v := 8) hx hb dL_begins_257 (by decide) ?_
                                        refine lv_icmp_ge (tgt := 273) hx hb dL_begins_259 (by decide) (fun c20 => ?_) (fun c20 => ?_)
                                        · refine lv_aload_n hx hb dL_begins_273 rfl (lv_at hl 8 rfl) ?_
                                          refine lv_aload hx hb dL_begins_274 (lv_at hl 10 rfl) ?_
                                          refine lv_aload hx hb dL_begins_276 (lv_at hl 11 rfl) ?_
                                          refine lv_iconst (v := (-1)) hx hb dL_begins_278 (by decide) ?_
                                          have hg1 : (upd (upd (upd (upd (upd (upd (upd (upd (upd (upd (upd (upd (upd g 0 1) 1 4) 2 1) 3 1) 4 2) 5 15) 6 1) 7 0) 8 0) 9 (-1)) 10 (-1)) 11 (-1)) 12 (-1)) 1 = 4 := rfl
                                          have hg8 : (upd (upd (upd (upd (upd (upd (upd (upd (upd (upd (upd (upd (upd g 0 1) 1 4) 2 1) 3 1) 4 2) 5 15) 6 1) 7 0) 8 0) 9 (-1)) 10 (-1)) 11 (-1)) 12 (-1)) 8 = 0 := rfl
                                          refine mgv_S (As := [.ref kg, .ref kf, .ref kb, .int (-1)]) (rest := []) ⟨hx, hb, hml, hown, hts⟩ (c_L_book l D cI cZ cJ _ kg kf kb (upd (upd (upd (upd (upd (upd (upd (upd (upd (upd (upd (upd (upd g 0 1) 1 4) 2 1) 3 1) 4 2) 5 15) 6 1) 7 0) 8 0) 9 (-1)) 10 (-1)) 11 (-1)) 12 (-1)) f b (-1) hg1 hg8) (va_cwS 4 hts gL_begins_L_book rfl rfl rfl (by decide +kernel) ⟨Nat.le_of_ble_eq_true rfl, Nat.le_of_ble_eq_true rfl⟩) hP hD hK hN hS hA rfl hl.1 rfl (Nat.le_of_ble_eq_true rfl) dL_begins_279 ⟨Nat.le_of_ble_eq_true rfl, Nat.le_of_ble_eq_true rfl⟩ [4, 6, 7] [0, 1, 2, 3, 5] rfl rfl (fun b21 => [cT hT hB hV a, cB hB hG tr, cA cI hG 1120 pg, cA cI hV 8 vv, cA cI kg 13 (upd (upd (upd (upd (upd (upd (upd (upd (upd (upd (upd (upd (upd g 0 1) 1 4) 2 1) 3 1) 4 2) 5 15) 6 1) 7 0) 8 0) 9 (-1)) 10 (-1)) 11 (-1)) 12 (-1)), cA cI kv 8 (upd (upd (upd (upd (upd (upd (upd (upd v 0 (-1)) 1 (-1)) 2 (-1)) 3 (-1)) 4 (-1)) 5 (-1)) 6 (-1)) 7 (-1)), cA cI kf 60 f, cA cI kb 40 b21]) (fun _ => rfl) (fun _ => (by intro i9 h9; simp only [List.mem_cons, List.not_mem_nil, or_false] at h9; rcases h9 with rfl | rfl | rfl | rfl | rfl <;> rfl)) (fun _ => rfl) 8 (fun _ => rfl) (by decide) (by decide) (fun b21 H locs hP hD hS hG22 => ?_)
                                          have hP : va_P D vwCl [cT hT hB hV a, cB hB hG tr, cA cI hG 1120 pg, cA cI hV 8 vv, cA cI kg 13 (upd (upd (upd (upd (upd (upd (upd (upd (upd (upd (upd (upd (upd g 0 1) 1 4) 2 1) 3 1) 4 2) 5 15) 6 1) 7 0) 8 0) 9 (-1)) 10 (-1)) 11 (-1)) 12 (-1)), cA cI kv 8 (upd (upd (upd (upd (upd (upd (upd (upd v 0 (-1)) 1 (-1)) 2 (-1)) 3 (-1)) 4 (-1)) 5 (-1)) 6 (-1)) 7 (-1)), cA cI kf 60 f, cA cI kb 40 b21] H := hP
                                          have hD : va_D A [cT hT hB hV a, cB hB hG tr, cA cI hG 1120 pg, cA cI hV 8 vv, cA cI kg 13 (upd (upd (upd (upd (upd (upd (upd (upd (upd (upd (upd (upd (upd g 0 1) 1 4) 2 1) 3 1) 4 2) 5 15) 6 1) 7 0) 8 0) 9 (-1)) 10 (-1)) 11 (-1)) 12 (-1)), cA cI kv 8 (upd (upd (upd (upd (upd (upd (upd (upd v 0 (-1)) 1 (-1)) 2 (-1)) 3 (-1)) 4 (-1)) 5 (-1)) 6 (-1)) 7 (-1)), cA cI kf 60 f, cA cI kb 40 b21] := hD
                                          refine lv_aload_n hx hb dL_begins_282 rfl (lv_at hl 6 rfl) ?_
                                          refine lv_iload hx hb dL_begins_283 (lv_at hl 5 rfl) ?_
                                          refine lv_iload hx hb dL_begins_285 (lv_at hl 3 rfl) ?_
                                          refine lv_iload hx hb dL_begins_287 (lv_at hl 2 rfl) ?_
                                          refine lv_iload hx hb dL_begins_289 (lv_at hl 2 rfl) ?_
                                          refine mx_SW (As := [.ref hT, .int 4, .int 1, .int 1, .int 1]) (rest := []) ⟨hx, hb, hml, hown, hts⟩ (x_L_start_3 l D cI cZ cJ _ hst hT hB hV a 4 1 1 1 (by decide +kernel)) (vx_cwSW 5 hts gL_begins_L_start rfl rfl rfl (by decide +kernel) ⟨Nat.le_of_ble_eq_true rfl, Nat.le_of_ble_eq_true rfl⟩) hP hD hK hN hY hXn hS hA hZ rfl hl.1 rfl (Nat.le_of_ble_eq_true rfl) dL_begins_291 ⟨Nat.le_of_ble_eq_true rfl, Nat.le_of_ble_eq_true rfl⟩ [0] [1, 2, 3, 4, 5, 6, 7] rfl rfl 8 rfl (by decide) (by decide) (fun H locs hP hD hS hG23 => ?_)
                                          refine lv_bipush (v := (-73)) hx hb dL_begins_294 (by decide) ?_
                                          refine lv_icmp_ne (tgt := 433) hx hb dL_begins_296 (by decide) (fun c24 => ?_) (fun c24 => ?_)
                                          · exact absurd c24 (by decide)
                                          · refine lv_aload_n hx hb dL_begins_299 rfl (lv_at hl 6 rfl) ?_
                                            refine lv_iload hx hb dL_begins_300 (lv_at hl 5 rfl) ?_
                                            refine lv_iload hx hb dL_begins_302 (lv_at hl 3 rfl) ?_
                                            refine lv_iconst (v := 1) hx hb dL_begins_304 (by decide) ?_
                                            refine lv_iload hx hb dL_begins_305 (lv_at hl 5 rfl) ?_
                                            refine lv_ishl hx hb dL_begins_307 ?_
                                            refine k_top 16 (by decide) ?_
                                            refine lv_ior hx hb dL_begins_308 ?_
                                            refine k_top 17 (by decide) ?_
                                            refine lv_iload hx hb dL_begins_309 (lv_at hl 2 rfl) ?_
                                            refine lv_iload hx hb dL_begins_311 (lv_at hl 1 rfl) ?_
                                            refine mx_SW (As := [.ref hT, .int 4, .int 17, .int 1, .int 2]) (rest := []) ⟨hx, hb, hml, hown, hts⟩ (x_L_start_3 l D cI cZ cJ _ hst hT hB hV a 4 17 1 2 (by decide +kernel)) (vx_cwSW 5 hts gL_begins_L_start rfl rfl rfl (by decide +kernel) ⟨Nat.le_of_ble_eq_true rfl, Nat.le_of_ble_eq_true rfl⟩) hP hD hK hN hY hXn hS hA hZ rfl hl.1 rfl (Nat.le_of_ble_eq_true rfl) dL_begins_313 ⟨Nat.le_of_ble_eq_true rfl, Nat.le_of_ble_eq_true rfl⟩ [0] [1, 2, 3, 4, 5, 6, 7] rfl rfl 8 rfl (by decide) (by decide) (fun H locs hP hD hS hG25 => ?_)
                                            refine lv_bipush (v := (-73)) hx hb dL_begins_316 (by decide) ?_
                                            refine lv_icmp_ne (tgt := 433) hx hb dL_begins_318 (by decide) (fun c26 => ?_) (fun c26 => ?_)
                                            · exact absurd c26 (by decide)
                                            · refine lv_aload_n hx hb dL_begins_321 rfl (lv_at hl 6 rfl) ?_
                                              refine lv_iload hx hb dL_begins_322 (lv_at hl 5 rfl) ?_
                                              refine lv_iconst (v := 0) hx hb dL_begins_324 (by decide) ?_
                                              refine lv_iload hx hb dL_begins_325 (lv_at hl 2 rfl) ?_
                                              refine lv_iload hx hb dL_begins_327 (lv_at hl 1 rfl) ?_
                                              refine mx_SW (As := [.ref hT, .int 4, .int 0, .int 1, .int 2]) (rest := []) ⟨hx, hb, hml, hown, hts⟩ (x_L_start_3 l D cI cZ cJ _ hst hT hB hV a 4 0 1 2 (by decide +kernel)) (vx_cwSW 5 hts gL_begins_L_start rfl rfl rfl (by decide +kernel) ⟨Nat.le_of_ble_eq_true rfl, Nat.le_of_ble_eq_true rfl⟩) hP hD hK hN hY hXn hS hA hZ rfl hl.1 rfl (Nat.le_of_ble_eq_true rfl) dL_begins_329 ⟨Nat.le_of_ble_eq_true rfl, Nat.le_of_ble_eq_true rfl⟩ [0] [1, 2, 3, 4, 5, 6, 7] rfl rfl 8 rfl (by decide) (by decide) (fun H locs hP hD hS hG27 => ?_)
                                              refine lv_bipush (v := (-73)) hx hb dL_begins_332 (by decide) ?_
                                              refine lv_icmp_ne (tgt := 433) hx hb dL_begins_334 (by decide) (fun c28 => ?_) (fun c28 => ?_)
                                              · exact absurd c28 (by decide)
                                              · refine lv_aload_n hx hb dL_begins_337 rfl (lv_at hl 6 rfl) ?_
                                                refine lv_bipush (v := 9) hx hb dL_begins_338 (by decide) ?_
                                                refine lv_iconst (v := 1) hx hb dL_begins_340 (by decide) ?_
                                                refine lv_iconst (v := 2) hx hb dL_begins_341 (by decide) ?_
                                                refine lv_iconst (v := 3) hx hb dL_begins_342 (by decide) ?_
                                                refine mx_SW (As := [.ref hT, .int 9, .int 1, .int 2, .int 3]) (rest := []) ⟨hx, hb, hml, hown, hts⟩ (x_L_start_3 l D cI cZ cJ _ hst hT hB hV a 9 1 2 3 (by decide +kernel)) (vx_cwSW 5 hts gL_begins_L_start rfl rfl rfl (by decide +kernel) ⟨Nat.le_of_ble_eq_true rfl, Nat.le_of_ble_eq_true rfl⟩) hP hD hK hN hY hXn hS hA hZ rfl hl.1 rfl (Nat.le_of_ble_eq_true rfl) dL_begins_343 ⟨Nat.le_of_ble_eq_true rfl, Nat.le_of_ble_eq_true rfl⟩ [0] [1, 2, 3, 4, 5, 6, 7] rfl rfl 8 rfl (by decide) (by decide) (fun H locs hP hD hS hG29 => ?_)
                                                refine lv_bipush (v := (-73)) hx hb dL_begins_346 (by decide) ?_
                                                refine lv_icmp_ne (tgt := 433) hx hb dL_begins_348 (by decide) (fun c30 => ?_) (fun c30 => ?_)
                                                · exact absurd c30 (by decide)
                                                · refine lv_aload_n hx hb dL_begins_351 rfl (lv_at hl 6 rfl) ?_
                                                  refine lv_iconst (v := 3) hx hb dL_begins_352 (by decide) ?_
                                                  refine lv_iconst (v := 1) hx hb dL_begins_353 (by decide) ?_
                                                  refine lv_iconst (v := 1) hx hb dL_begins_354 (by decide) ?_
                                                  refine lv_iconst (v := 2) hx hb dL_begins_355 (by decide) ?_
                                                  refine mx_SW (As := [.ref hT, .int 3, .int 1, .int 1, .int 2]) (rest := []) ⟨hx, hb, hml, hown, hts⟩ (x_L_start_3 l D cI cZ cJ _ hst hT hB hV a 3 1 1 2 (by decide +kernel)) (vx_cwSW 5 hts gL_begins_L_start rfl rfl rfl (by decide +kernel) ⟨Nat.le_of_ble_eq_true rfl, Nat.le_of_ble_eq_true rfl⟩) hP hD hK hN hY hXn hS hA hZ rfl hl.1 rfl (Nat.le_of_ble_eq_true rfl) dL_begins_356 ⟨Nat.le_of_ble_eq_true rfl, Nat.le_of_ble_eq_true rfl⟩ [0] [1, 2, 3, 4, 5, 6, 7] rfl rfl 8 rfl (by decide) (by decide) (fun H locs hP hD hS hG31 => ?_)
                                                  refine lv_bipush (v := (-73)) hx hb dL_begins_359 (by decide) ?_
                                                  refine lv_icmp_ne (tgt := 433) hx hb dL_begins_361 (by decide) (fun c32 => ?_) (fun c32 => ?_)
                                                  · exact absurd c32 (by decide)
                                                  · refine lv_aload_n hx hb dL_begins_364 rfl (lv_at hl 6 rfl) ?_
                                                    refine lv_iconst (v := 4) hx hb dL_begins_365 (by decide) ?_
                                                    refine lv_iconst (v := 3) hx hb dL_begins_366 (by decide) ?_
                                                    refine lv_iconst (v := 2) hx hb dL_begins_367 (by decide) ?_
                                                    refine lv_iconst (v := 3) hx hb dL_begins_368 (by decide) ?_
                                                    refine mx_SW (As := [.ref hT, .int 4, .int 3, .int 2, .int 3]) (rest := []) ⟨hx, hb, hml, hown, hts⟩ (x_L_start_3 l D cI cZ cJ _ hst hT hB hV a 4 3 2 3 (by decide +kernel)) (vx_cwSW 5 hts gL_begins_L_start rfl rfl rfl (by decide +kernel) ⟨Nat.le_of_ble_eq_true rfl, Nat.le_of_ble_eq_true rfl⟩) hP hD hK hN hY hXn hS hA hZ rfl hl.1 rfl (Nat.le_of_ble_eq_true rfl) dL_begins_369 ⟨Nat.le_of_ble_eq_true rfl, Nat.le_of_ble_eq_true rfl⟩ [0] [1, 2, 3, 4, 5, 6, 7] rfl rfl 8 rfl (by decide) (by decide) (fun H locs hP hD hS hG33 => ?_)
                                                    refine lv_bipush (v := (-73)) hx hb dL_begins_372 (by decide) ?_
                                                    refine lv_icmp_ne (tgt := 433) hx hb dL_begins_374 (by decide) (fun c34 => ?_) (fun c34 => ?_)
                                                    · exact absurd c34 (by decide)
                                                    · refine lv_aload_n hx hb dL_begins_377 rfl (lv_at hl 6 rfl) ?_
                                                      refine lv_iload hx hb dL_begins_378 (lv_at hl 5 rfl) ?_
                                                      refine lv_iload hx hb dL_begins_380 (lv_at hl 3 rfl) ?_
                                                      refine lv_iload hx hb dL_begins_382 (lv_at hl 5 rfl) ?_
                                                      refine lv_iload hx hb dL_begins_384 (lv_at hl 1 rfl) ?_
                                                      refine mx_SW (As := [.ref hT, .int 4, .int 1, .int 4, .int 2]) (rest := []) ⟨hx, hb, hml, hown, hts⟩ (x_L_start_3 l D cI cZ cJ _ hst hT hB hV a 4 1 4 2 (by decide +kernel)) (vx_cwSW 5 hts gL_begins_L_start rfl rfl rfl (by decide +kernel) ⟨Nat.le_of_ble_eq_true rfl, Nat.le_of_ble_eq_true rfl⟩) hP hD hK hN hY hXn hS hA hZ rfl hl.1 rfl (Nat.le_of_ble_eq_true rfl) dL_begins_386 ⟨Nat.le_of_ble_eq_true rfl, Nat.le_of_ble_eq_true rfl⟩ [0] [1, 2, 3, 4, 5, 6, 7] rfl rfl 8 rfl (by decide) (by decide) (fun H locs hP hD hS hG35 => ?_)
                                                      refine lv_bipush (v := (-73)) hx hb dL_begins_389 (by decide) ?_
                                                      refine lv_icmp_ne (tgt := 433) hx hb dL_begins_391 (by decide) (fun c36 => ?_) (fun c36 => ?_)
                                                      · exact absurd c36 (by decide)
                                                      · refine lv_aload_n hx hb dL_begins_394 rfl (lv_at hl 6 rfl) ?_
                                                        refine lv_iload hx hb dL_begins_395 (lv_at hl 5 rfl) ?_
                                                        refine lv_iconst (v := (-1)) hx hb dL_begins_397 (by decide) ?_
                                                        refine lv_iload hx hb dL_begins_398 (lv_at hl 2 rfl) ?_
                                                        refine lv_iload hx hb dL_begins_400 (lv_at hl 1 rfl) ?_
                                                        refine mx_SW (As := [.ref hT, .int 4, .int (-1), .int 1, .int 2]) (rest := []) ⟨hx, hb, hml, hown, hts⟩ (x_L_start_3 l D cI cZ cJ _ hst hT hB hV a 4 (-1) 1 2 (by decide +kernel)) (vx_cwSW 5 hts gL_begins_L_start rfl rfl rfl (by decide +kernel) ⟨Nat.le_of_ble_eq_true rfl, Nat.le_of_ble_eq_true rfl⟩) hP hD hK hN hY hXn hS hA hZ rfl hl.1 rfl (Nat.le_of_ble_eq_true rfl) dL_begins_402 ⟨Nat.le_of_ble_eq_true rfl, Nat.le_of_ble_eq_true rfl⟩ [0] [1, 2, 3, 4, 5, 6, 7] rfl rfl 8 rfl (by decide) (by decide) (fun H locs hP hD hS hG37 => ?_)
                                                        refine lv_bipush (v := (-73)) hx hb dL_begins_405 (by decide) ?_
                                                        refine lv_icmp_ne (tgt := 433) hx hb dL_begins_407 (by decide) (fun c38 => ?_) (fun c38 => ?_)
                                                        · exact absurd c38 (by decide)
                                                        · refine lv_aload_n hx hb dL_begins_410 rfl (lv_at hl 6 rfl) ?_
                                                          refine lv_iload hx hb dL_begins_411 (lv_at hl 5 rfl) ?_
                                                          refine lv_iload hx hb dL_begins_413 (lv_at hl 3 rfl) ?_
                                                          refine lv_iload hx hb dL_begins_415 (lv_at hl 2 rfl) ?_
                                                          refine lv_iload hx hb dL_begins_417 (lv_at hl 1 rfl) ?_
                                                          refine mi_SW (As := [.ref hT, .int 4, .int 1, .int 1, .int 2]) (rest := []) (W2 := [cT hT hB hV (aYs a (nI 4) (nI 1) (nI 1) (nI 2)), cB hB hG (yWo (nI 1) (nI 1) (nI 2)), cA cI hG 1120 rfG, cA cI hV 8 (iUp vM vv 8), cA cI kg 13 (upd (upd (upd (upd (upd (upd (upd (upd (upd (upd (upd (upd (upd g 0 1) 1 4) 2 1) 3 1) 4 2) 5 15) 6 1) 7 0) 8 0) 9 (-1)) 10 (-1)) 11 (-1)) 12 (-1)), cA cI kv 8 (upd (upd (upd (upd (upd (upd (upd (upd v 0 (-1)) 1 (-1)) 2 (-1)) 3 (-1)) 4 (-1)) 5 (-1)) 6 (-1)) 7 (-1)), cA cI kf 60 f, cA cI kb 40 b21]) ⟨hx, hb, hml, hown, hts⟩ (c_L_start l D cI cZ cJ _ hT hB hV a hG tr pg vv 4 1 1 2 rfP (by decide) rfP_P rfP_F rfP_B hpg0 rfP_E rf_good) (vx_cwSW 5 hts gL_begins_L_start rfl rfl rfl (by decide +kernel) ⟨Nat.le_of_ble_eq_true rfl, Nat.le_of_ble_eq_true rfl⟩) hP hD hK hN hS hA rfl hl.1 rfl (Nat.le_of_ble_eq_true rfl) dL_begins_419 ⟨Nat.le_of_ble_eq_true rfl, Nat.le_of_ble_eq_true rfl⟩ [0, 1, 2, 3] [4, 5, 6, 7] rfl rfl rfl (by intro i9 h9; simp only [List.mem_cons, List.not_mem_nil, or_false] at h9; rcases h9 with rfl | rfl | rfl | rfl <;> rfl) rfl 8 rfl (by decide) (by decide) (fun H locs hP hD hS => ?_)
                                                          refine lv_aload hx hb dL_begins_422 (lv_at hl 11 rfl) ?_
                                                          refine lv_iconst (v := 0) hx hb dL_begins_424 (by decide) ?_
                                                          refine k_iald (D := D) (j := 0) (v := (b21 0)) hx hb hK hP 7 0 rfl rfl (by decide) (by decide) (Nat.le_of_ble_eq_true rfl) rfl dL_begins_425 ?_
                                                          refine lv_icmp_ne (tgt := 433) hx hb dL_begins_426 (by decide) (fun c39 => ?_) (fun c39 => ?_)
                                                          · refine lv_iconst (v := 0) hx hb dL_begins_433 (by decide) ?_
                                                            exact mg_zret b21 hx hb hr hlocks hS (Nat.le_of_ble_eq_true rfl) (Nat.le_of_ble_eq_true rfl) (Or.inl rfl) rfl hP (by have h9 := hS.1; omega) dL_begins_434
                                                          · refine lv_iconst (v := 1) hx hb dL_begins_429 (by decide) ?_
                                                            refine lv_goto (tgt := 434) hx hb dL_begins_430 (by decide) ?_
                                                            exact mg_zret b21 hx hb hr hlocks hS (Nat.le_of_ble_eq_true rfl) (Nat.le_of_ble_eq_true rfl) (Or.inr rfl) rfl hP (by have h9 := hS.1; omega) dL_begins_434
                                        · exact absurd c20 (by decide)
                      · exact absurd c11 (by decide)
            · exact absurd c6 (by decide)
        · exact absurd c4 (by decide)
      · exact absurd c3 (by decide)
    · exact absurd c2 (by decide)
