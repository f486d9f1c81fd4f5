set_option maxHeartbeats 4000000 in
set_option maxRecDepth 100000 in
theorem c_L_book (l : Launch) (D : va_G) (cI cZ cJ : ClassId) (sz : Nat) (kg kf kb : Nat) (g f b : Nat → Int32) (vw : Int32) (hg1 : g 1 = 4) (hg8 : g 8 = 0) : Mgv (α := Nat → Int32) l D cI cZ cJ yL_book wsL_book 3 70 sz [.ref kg, .ref kf, .ref kb, .int vw] [cA cI kg 13 g, cA cI kf 60 f, cA cI kb 40 b] (fun b => [cA cI kg 13 g, cA cI kf 60 f, cA cI kb 40 b]) := by
  refine mgv_of (by decide) rfl (Nat.le_of_ble_eq_true rfl) (fun p e s m below meth c ls A hx hb hr hml hts hown hlocks hP hK hN hD hA hS hl => ?_)
  have hl : lv_has ls 9 [(0, .ref kg), (1, .ref kf), (2, .ref kb), (3, .int vw)] := hl
  refine lv_iconst (v := 0) hx hb dL_book_0 (by decide) ?_
  refine lv_istore (lv' := [(4, .int 0), (0, .ref kg), (1, .ref kf), (2, .ref kb), (3, .int vw)]) hx hb dL_book_1 hl (by decide) rfl (fun ls hl => ?_)
  refine loop_WX (α := Nat → Int32) (D := D) (nL := 9) (h := 3) 40 (fun i1 _ => [(4, .int (nI i1)), (0, .ref kg), (1, .ref kf), (2, .ref kb), (3, .int vw)]) (fun _ b2 => [cA cI kg 13 g, cA cI kf 60 f, cA cI kb 40 b2]) (fun _ _ => True) (fun i1 b2 hii1 _ ihi1 H locs ls hP hD hS hl => ?_) 0 b (Nat.zero_le _) trivial _ _ ls hP hD hS (lv_sub hl [0, 1, 2, 3, 4] rfl)
  have hl : lv_has ls 9 [(4, .int (nI i1)), (0, .ref kg), (1, .ref kf), (2, .ref kb), (3, .int vw)] := hl
  have hP : va_P D vwCl [cA cI kg 13 g, cA cI kf 60 f, cA cI kb 40 b2] H := hP
  have hD : va_D A [cA cI kg 13 g, cA cI kf 60 f, cA cI kb 40 b2] := hD
  refine lv_iload hx hb dL_book_3 (lv_at hl 0 rfl) ?_
  refine lv_bipush (v := 40) hx hb dL_book_5 (by decide) ?_
  refine lv_icmp_ge (tgt := 21) hx hb dL_book_7 (by decide) (fun c3 => ?_) (fun c3 => ?_)
  · refine lv_aload_n hx hb dL_book_21 rfl (lv_at hl 3 rfl) ?_
    refine lv_iconst (v := 2) hx hb dL_book_22 (by decide) ?_
    refine lv_iconst (v := 1) hx hb dL_book_23 (by decide) ?_
    refine lv_aload_n hx hb dL_book_24 rfl (lv_at hl 1 rfl) ?_
    refine lv_iconst (v := 1) hx hb dL_book_25 (by decide) ?_
    refine k_iald (D := D) (j := 1) (v := 4) hx hb hK hP 0 0 rfl rfl (by decide) (by decide) (Nat.le_of_ble_eq_true rfl) hg1 dL_book_26 ?_
    refine lv_ishl hx hb dL_book_27 ?_
    refine k_top 16 (by decide) ?_
    refine lv_iconst (v := 1) hx hb dL_book_28 (by decide) ?_
    refine lv_isub hx hb dL_book_29 ?_
    refine k_top 15 (by decide) ?_
    refine k_iast (D := D) (j := 2) hx hb hK hP hD hS 2 0 rfl rfl (by decide) (by decide) (Nat.le_of_ble_eq_true rfl) dL_book_30 (fun H locs hP hD hS => ?_)
    have hP : va_P D vwCl [cA cI kg 13 g, cA cI kf 60 f, cA cI kb 40 (upd b2 2 15)] H := hP
    have hD : va_D A [cA cI kg 13 g, cA cI kf 60 f, cA cI kb 40 (upd b2 2 15)] := hD
    refine lv_iconst (v := 0) hx hb dL_book_31 (by decide) ?_
    refine lv_istore (lv' := [(4, .int 0), (0, .ref kg), (1, .ref kf), (2, .ref kb), (3, .int vw)]) hx hb dL_book_32 hl (by decide) rfl (fun ls hl => ?_)
    refine loop_WX (α := Nat → Int32) (D := D) (nL := 9) (h := 34) 16 (fun i4 _ => [(4, .int (nI i4)), (0, .ref kg), (1, .ref kf), (2, .ref kb), (3, .int vw)]) (fun _ b5 => [cA cI kg 13 g, cA cI kf 60 f, cA cI kb 40 b5]) (fun _ _ => True) (fun i4 b5 hii4 _ ihi4 H locs ls hP hD hS hl => ?_) 0 (upd b2 2 15) (Nat.zero_le _) trivial _ _ ls hP hD hS (lv_sub hl [0, 1, 2, 3, 4] rfl)
    have hl : lv_has ls 9 [(4, .int (nI i4)), (0, .ref kg), (1, .ref kf), (2, .ref kb), (3, .int vw)] := hl
    have hP : va_P D vwCl [cA cI kg 13 g, cA cI kf 60 f, cA cI kb 40 b5] H := hP
    have hD : va_D A [cA cI kg 13 g, cA cI kf 60 f, cA cI kb 40 b5] := hD
    refine lv_iload hx hb dL_book_34 (lv_at hl 0 rfl) ?_
    refine lv_iconst (v := 1) hx hb dL_book_36 (by decide) ?_
    refine lv_aload_n hx hb dL_book_37 rfl (lv_at hl 1 rfl) ?_
    refine lv_iconst (v := 1) hx hb dL_book_38 (by decide) ?_
    refine k_iald (D := D) (j := 1) (v := 4) hx hb hK hP 0 0 rfl rfl (by decide) (by decide) (Nat.le_of_ble_eq_true rfl) hg1 dL_book_39 ?_
    refine lv_ishl hx hb dL_book_40 ?_
    refine k_top 16 (by decide) ?_
    refine lv_icmp_ge (tgt := 191) hx hb dL_book_41 (by decide) (fun c6 => ?_) (fun c6 => ?_)
    · exact mgv_ret b5 hx hb hr hlocks hS hP dL_book_191
    · have hlti4 : i4 < 16 := k_lt (N := 16) (by decide) (by decide) hii4 c6
      refine lv_aload_n hx hb dL_book_44 rfl (lv_at hl 3 rfl) ?_
      refine lv_iconst (v := 0) hx hb dL_book_45 (by decide) ?_
      refine k_iald (D := D) (j := 0) (v := (b5 0)) hx hb hK hP 2 0 rfl rfl (by decide) (by decide) (Nat.le_of_ble_eq_true rfl) rfl dL_book_46 ?_
      refine lv_istore (lv' := [(5, .int (b5 0)), (4, .int (nI i4)), (0, .ref kg), (1, .ref kf), (2, .ref kb), (3, .int vw)]) hx hb dL_book_47 hl (by decide) rfl (fun ls hl => ?_)
      refine lv_iconst (v := 0) hx hb dL_book_49 (by decide) ?_
      refine lv_istore (lv' := [(6, .int 0), (5, .int (b5 0)), (4, .int (nI i4)), (0, .ref kg), (1, .ref kf), (2, .ref kb), (3, .int vw)]) hx hb dL_book_50 hl (by decide) rfl (fun ls hl => ?_)
      refine loop_WX (α := Nat → Int32) (D := D) (nL := 9) (h := 52) 4 (fun i7 _ => [(6, .int (nI i7)), (5, .int (b5 0)), (4, .int (nI i4)), (0, .ref kg), (1, .ref kf), (2, .ref kb), (3, .int vw)]) (fun _ b8 => [cA cI kg 13 g, cA cI kf 60 f, cA cI kb 40 b8]) (fun _ _ => True) (fun i7 b8 hii7 _ ihi7 H locs ls hP hD hS hl => ?_) 0 b5 (Nat.zero_le _) trivial _ _ ls hP hD hS (lv_sub hl [0, 1, 2, 3, 4, 5, 6] rfl)
      have hl : lv_has ls 9 [(6, .int (nI i7)), (5, .int (b5 0)), (4, .int (nI i4)), (0, .ref kg), (1, .ref kf), (2, .ref kb), (3, .int vw)] := hl
      have hP : va_P D vwCl [cA cI kg 13 g, cA cI kf 60 f, cA cI kb 40 b8] H := hP
      have hD : va_D A [cA cI kg 13 g, cA cI kf 60 f, cA cI kb 40 b8] := hD
      refine lv_iload hx hb dL_book_52 (lv_at hl 0 rfl) ?_
      refine lv_aload_n hx hb dL_book_54 rfl (lv_at hl 3 rfl) ?_
      refine lv_iconst (v := 1) hx hb dL_book_55 (by decide) ?_
      refine k_iald (D := D) (j := 1) (v := 4) hx hb hK hP 0 0 rfl rfl (by decide) (by decide) (Nat.le_of_ble_eq_true rfl) hg1 dL_book_56 ?_
      refine lv_icmp_ge (tgt := 151) hx hb dL_book_57 (by decide) (fun c9 => ?_) (fun c9 => ?_)
      · refine lv_aload_n hx hb dL_book_151 rfl (lv_at hl 5 rfl) ?_
        refine lv_iconst (v := 0) hx hb dL_book_152 (by decide) ?_
        refine k_iald (D := D) (j := 0) (v := (b8 0)) hx hb hK hP 2 0 rfl rfl (by decide) (by decide) (Nat.le_of_ble_eq_true rfl) rfl dL_book_153 ?_
        refine lv_iload hx hb dL_book_154 (lv_at hl 1 rfl) ?_
        refine lv_icmp_ne (tgt := 162) hx hb dL_book_156 (by decide) (fun c10 => ?_) (fun c10 => ?_)
        · refine lv_aload_n hx hb dL_book_162 rfl (lv_at hl 5 rfl) ?_
          refine lv_iconst (v := 1) hx hb dL_book_163 (by decide) ?_
          refine lv_dup2_11 hx hb dL_book_164 rfl rfl ?_
          refine k_iald (D := D) (j := 1) (v := (b8 1)) hx hb hK hP 2 0 rfl rfl (by decide) (by decide) (Nat.le_of_ble_eq_true rfl) rfl dL_book_165 ?_
          refine lv_iconst (v := 1) hx hb dL_book_166 (by decide) ?_
          refine lv_iadd hx hb dL_book_167 ?_
          refine k_iast (D := D) (j := 1) hx hb hK hP hD hS 2 0 rfl rfl (by decide) (by decide) (Nat.le_of_ble_eq_true rfl) dL_book_168 (fun H locs hP hD hS => ?_)
          have hP : va_P D vwCl [cA cI kg 13 g, cA cI kf 60 f, cA cI kb 40 (upd b8 1 ((b8 1) + 1))] H := hP
          have hD : va_D A [cA cI kg 13 g, cA cI kf 60 f, cA cI kb 40 (upd b8 1 ((b8 1) + 1))] := hD
          refine lv_aload_n hx hb dL_book_169 rfl (lv_at hl 5 rfl) ?_
          refine lv_iconst (v := 2) hx hb dL_book_170 (by decide) ?_
          refine lv_dup2_11 hx hb dL_book_171 rfl rfl ?_
          refine k_iald (D := D) (j := 2) (v := ((upd b8 1 ((b8 1) + 1)) 2)) hx hb hK hP 2 0 rfl rfl (by decide) (by decide) (Nat.le_of_ble_eq_true rfl) rfl dL_book_172 ?_
          refine lv_iload hx hb dL_book_173 (lv_at hl 2 rfl) ?_
          refine lv_iand hx hb dL_book_175 ?_
          refine k_iast (D := D) (j := 2) hx hb hK hP hD hS 2 0 rfl rfl (by decide) (by decide) (Nat.le_of_ble_eq_true rfl) dL_book_176 (fun H locs hP hD hS => ?_)
          have hP : va_P D vwCl [cA cI kg 13 g, cA cI kf 60 f, cA cI kb 40 (upd (upd b8 1 ((b8 1) + 1)) 2 (((upd b8 1 ((b8 1) + 1)) 2) &&& (nI i4)))] H := hP
          have hD : va_D A [cA cI kg 13 g, cA cI kf 60 f, cA cI kb 40 (upd (upd b8 1 ((b8 1) + 1)) 2 (((upd b8 1 ((b8 1) + 1)) 2) &&& (nI i4)))] := hD
          refine lv_aload_n hx hb dL_book_177 rfl (lv_at hl 5 rfl) ?_
          refine lv_iconst (v := 3) hx hb dL_book_178 (by decide) ?_
          refine lv_dup2_11 hx hb dL_book_179 rfl rfl ?_
          refine k_iald (D := D) (j := 3) (v := ((upd (upd b8 1 ((b8 1) + 1)) 2 (((upd b8 1 ((b8 1) + 1)) 2) &&& (nI i4))) 3)) hx hb hK hP 2 0 rfl rfl (by decide) (by decide) (Nat.le_of_ble_eq_true rfl) rfl dL_book_180 ?_
          refine lv_iload hx hb dL_book_181 (lv_at hl 2 rfl) ?_
          refine lv_ior hx hb dL_book_183 ?_
          refine k_iast (D := D) (j := 3) hx hb hK hP hD hS 2 0 rfl rfl (by decide) (by decide) (Nat.le_of_ble_eq_true rfl) dL_book_184 (fun H locs hP hD hS => ?_)
          have hP : va_P D vwCl [cA cI kg 13 g, cA cI kf 60 f, cA cI kb 40 (upd (upd (upd b8 1 ((b8 1) + 1)) 2 (((upd b8 1 ((b8 1) + 1)) 2) &&& (nI i4))) 3 (((upd (upd b8 1 ((b8 1) + 1)) 2 (((upd b8 1 ((b8 1) + 1)) 2) &&& (nI i4))) 3) ||| (nI i4)))] H := hP
          have hD : va_D A [cA cI kg 13 g, cA cI kf 60 f, cA cI kb 40 (upd (upd (upd b8 1 ((b8 1) + 1)) 2 (((upd b8 1 ((b8 1) + 1)) 2) &&& (nI i4))) 3 (((upd (upd b8 1 ((b8 1) + 1)) 2 (((upd b8 1 ((b8 1) + 1)) 2) &&& (nI i4))) 3) ||| (nI i4)))] := hD
          refine lv_iinc (v := (nI (i4 + 1))) (lv' := [(4, .int (nI (i4 + 1))), (6, .int (nI i7)), (5, .int (b5 0)), (0, .ref kg), (1, .ref kf), (2, .ref kb), (3, .int vw)]) hx hb dL_book_185 hl (k := 2) rfl (nI_1 i4) (by decide) rfl (fun ls hl => ?_)
          refine lv_goto (tgt := 34) hx hb dL_book_188 (by decide) ?_
          exact ihi4 (upd (upd (upd b8 1 ((b8 1) + 1)) 2 (((upd b8 1 ((b8 1) + 1)) 2) &&& (nI i4))) 3 (((upd (upd b8 1 ((b8 1) + 1)) 2 (((upd b8 1 ((b8 1) + 1)) 2) &&& (nI i4))) 3) ||| (nI i4))) hlti4 trivial _ _ ls hP hD hS (lv_sub hl [0, 3, 4, 5, 6] rfl)
        · refine lv_goto (tgt := 185) hx hb dL_book_159 (by decide) ?_
          refine lv_iinc (v := (nI (i4 + 1))) (lv' := [(4, .int (nI (i4 + 1))), (6, .int (nI i7)), (5, .int (b5 0)), (0, .ref kg), (1, .ref kf), (2, .ref kb), (3, .int vw)]) hx hb dL_book_185 hl (k := 2) rfl (nI_1 i4) (by decide) rfl (fun ls hl => ?_)
          refine lv_goto (tgt := 34) hx hb dL_book_188 (by decide) ?_
          exact ihi4 b8 hlti4 trivial _ _ ls hP hD hS (lv_sub hl [0, 3, 4, 5, 6] rfl)
      · have hlti7 : i7 < 4 := k_lt (N := 4) (by decide) (by decide) hii7 c9
        refine lv_iconst (v := 0) hx hb dL_book_60 (by decide) ?_
        refine lv_istore (lv' := [(7, .int 0), (6, .int (nI i7)), (5, .int (b5 0)), (4, .int (nI i4)), (0, .ref kg), (1, .ref kf), (2, .ref kb), (3, .int vw)]) hx hb dL_book_61 hl (by decide) rfl (fun ls hl => ?_)
        refine loop_WX (α := Nat → Int32) (D := D) (nL := 9) (h := 63) 4 (fun i11 _ => [(7, .int (nI i11)), (6, .int (nI i7)), (5, .int (b5 0)), (4, .int (nI i4)), (0, .ref kg), (1, .ref kf), (2, .ref kb), (3, .int vw)]) (fun _ b12 => [cA cI kg 13 g, cA cI kf 60 f, cA cI kb 40 b12]) (fun _ _ => True) (fun i11 b12 hii11 _ ihi11 H locs ls hP hD hS hl => ?_) 0 b8 (Nat.zero_le _) trivial _ _ ls hP hD hS (lv_sub hl [0, 1, 2, 3, 4, 5, 6, 7] rfl)
        have hl : lv_has ls 9 [(7, .int (nI i11)), (6, .int (nI i7)), (5, .int (b5 0)), (4, .int (nI i4)), (0, .ref kg), (1, .ref kf), (2, .ref kb), (3, .int vw)] := hl
        have hP : va_P D vwCl [cA cI kg 13 g, cA cI kf 60 f, cA cI kb 40 b12] H := hP
        have hD : va_D A [cA cI kg 13 g, cA cI kf 60 f, cA cI kb 40 b12] := hD
        refine lv_iload hx hb dL_book_63 (lv_at hl 0 rfl) ?_
        refine lv_aload_n hx hb dL_book_65 rfl (lv_at hl 4 rfl) ?_
        refine lv_iconst (v := 1) hx hb dL_book_66 (by decide) ?_
        refine k_iald (D := D) (j := 1) (v := 4) hx hb hK hP 0 0 rfl rfl (by decide) (by decide) (Nat.le_of_ble_eq_true rfl) hg1 dL_book_67 ?_
        refine lv_icmp_ge (tgt := 145) hx hb dL_book_68 (by decide) (fun c13 => ?_) (fun c13 => ?_)
        · refine lv_iinc (v := (nI (i7 + 1))) (lv' := [(6, .int (nI (i7 + 1))), (7, .int (nI i11)), (5, .int (b5 0)), (4, .int (nI i4)), (0, .ref kg), (1, .ref kf), (2, .ref kb), (3, .int vw)]) hx hb dL_book_145 hl (k := 1) rfl (nI_1 i7) (by decide) rfl (fun ls hl => ?_)
          refine lv_goto (tgt := 52) hx hb dL_book_148 (by decide) ?_
          exact ihi7 b12 hlti7 trivial _ _ ls hP hD hS (lv_sub hl [0, 2, 3, 4, 5, 6, 7] rfl)
        · have hlti11 : i11 < 4 := k_lt (N := 4) (by decide) (by decide) hii11 c13
          refine lv_aload_n hx hb dL_book_71 rfl (lv_at hl 4 rfl) ?_
          refine lv_aload_n hx hb dL_book_72 rfl (lv_at hl 5 rfl) ?_
          refine lv_iload_n hx hb dL_book_73 rfl (lv_at hl 7 rfl) ?_
          refine lv_iload hx hb dL_book_74 (lv_at hl 3 rfl) ?_
          refine lv_iload hx hb dL_book_76 (lv_at hl 1 rfl) ?_
          refine lv_iload hx hb dL_book_78 (lv_at hl 0 rfl) ?_
          refine rp_S (As := [.ref kg, .ref kf, .int vw, .int (nI i4), .int (nI i7), .int (nI i11)]) (rest := []) ⟨hx, hb, hml, hown, hts⟩ (c_L_agrees l D cI cZ cJ kg kf g f vw (nI i4) (nI i7) (nI i11) hg1 hg8) (va_cwS 6 hts gL_book_L_agrees rfl rfl rfl (by decide +kernel) ⟨Nat.le_of_ble_eq_true rfl, Nat.le_of_ble_eq_true rfl⟩) (hP.sub (ws' := [cA cI kg 13 g, cA cI kf 60 f]) [0, 1] rfl) hK hN rfl hl.1 rfl (Nat.le_of_ble_eq_true rfl) dL_book_80 ⟨Nat.le_of_ble_eq_true rfl, Nat.le_of_ble_eq_true rfl⟩ (fun n14 _ => ?_)
          refine lv_if_ne (tgt := 89) hx hb dL_book_83 (by decide) (fun c15 => ?_) (fun c15 => ?_)
          · refine lv_aload_n hx hb dL_book_89 rfl (lv_at hl 6 rfl) ?_
            refine lv_iconst (v := 0) hx hb dL_book_90 (by decide) ?_
            refine lv_dup2_11 hx hb dL_book_91 rfl rfl ?_
            refine k_iald (D := D) (j := 0) (v := (b12 0)) hx hb hK hP 2 0 rfl rfl (by decide) (by decide) (Nat.le_of_ble_eq_true rfl) rfl dL_book_92 ?_
            refine lv_iconst (v := 1) hx hb dL_book_93 (by decide) ?_
            refine lv_iadd hx hb dL_book_94 ?_
            refine k_iast (D := D) (j := 0) hx hb hK hP hD hS 2 0 rfl rfl (by decide) (by decide) (Nat.le_of_ble_eq_true rfl) dL_book_95 (fun H locs hP hD hS => ?_)
            have hP : va_P D vwCl [cA cI kg 13 g, cA cI kf 60 f, cA cI kb 40 (upd b12 0 ((b12 0) + 1))] H := hP
            have hD : va_D A [cA cI kg 13 g, cA cI kf 60 f, cA cI kb 40 (upd b12 0 ((b12 0) + 1))] := hD
            refine lv_iconst (v := 0) hx hb dL_book_96 (by decide) ?_
            refine lv_istore (lv' := [(8, .int 0), (7, .int (nI i11)), (6, .int (nI i7)), (5, .int (b5 0)), (4, .int (nI i4)), (0, .ref kg), (1, .ref kf), (2, .ref kb), (3, .int vw)]) hx hb dL_book_97 hl (by decide) rfl (fun ls hl => ?_)
            refine loop_WX (α := Nat → Int32) (D := D) (nL := 9) (h := 99) 4 (fun i16 _ => [(8, .int (nI i16)), (7, .int (nI i11)), (6, .int (nI i7)), (5, .int (b5 0)), (4, .int (nI i4)), (0, .ref kg), (1, .ref kf), (2, .ref kb), (3, .int vw)]) (fun _ b17 => [cA cI kg 13 g, cA cI kf 60 f, cA cI kb 40 b17]) (fun _ _ => True) (fun i16 b17 hii16 _ ihi16 H locs ls hP hD hS hl => ?_) 0 (upd b12 0 ((b12 0) + 1)) (Nat.zero_le _) trivial _ _ ls hP hD hS (lv_sub hl [0, 1, 2, 3, 4, 5, 6, 7, 8] rfl)
            have hl : lv_has ls 9 [(8, .int (nI i16)), (7, .int (nI i11)), (6, .int (nI i7)), (5, .int (b5 0)), (4, .int (nI i4)), (0, .ref kg), (1, .ref kf), (2, .ref kb), (3, .int vw)] := hl
            have hP : va_P D vwCl [cA cI kg 13 g, cA cI kf 60 f, cA cI kb 40 b17] H := hP
            have hD : va_D A [cA cI kg 13 g, cA cI kf 60 f, cA cI kb 40 b17] := hD
            refine lv_iload hx hb dL_book_99 (lv_at hl 0 rfl) ?_
            refine lv_aload_n hx hb dL_book_101 rfl (lv_at hl 5 rfl) ?_
            refine lv_iconst (v := 1) hx hb dL_book_102 (by decide) ?_
            refine k_iald (D := D) (j := 1) (v := 4) hx hb hK hP 0 0 rfl rfl (by decide) (by decide) (Nat.le_of_ble_eq_true rfl) hg1 dL_book_103 ?_
            refine lv_icmp_ge (tgt := 139) hx hb dL_book_104 (by decide) (fun c18 => ?_) (fun c18 => ?_)
            · refine lv_iinc (v := (nI (i11 + 1))) (lv' := [(7, .int (nI (i11 + 1))), (8, .int (nI i16)), (6, .int (nI i7)), (5, .int (b5 0)), (4, .int (nI i4)), (0, .ref kg), (1, .ref kf), (2, .ref kb), (3, .int vw)]) hx hb dL_book_139 hl (k := 1) rfl (nI_1 i11) (by decide) rfl (fun ls hl => ?_)
              refine lv_goto (tgt := 63) hx hb dL_book_142 (by decide) ?_
              exact ihi11 b17 hlti11 trivial _ _ ls hP hD hS (lv_sub hl [0, 2, 3, 4, 5, 6, 7, 8] rfl)
            · have hlti16 : i16 < 4 := k_lt (N := 4) (by decide) (by decide) hii16 c18
              refine lv_aload_n hx hb dL_book_107 rfl (lv_at hl 7 rfl) ?_
              refine lv_bipush (v := 8) hx hb dL_book_108 (by decide) ?_
              refine lv_bipush (v := 8) hx hb dL_book_110 (by decide) ?_
              refine lv_iload hx hb dL_book_112 (lv_at hl 4 rfl) ?_
              refine lv_iload hx hb dL_book_114 (lv_at hl 2 rfl) ?_
              refine lv_iload hx hb dL_book_116 (lv_at hl 1 rfl) ?_
              refine lv_iload hx hb dL_book_118 (lv_at hl 0 rfl) ?_
              refine rp_S (As := [.int (nI i4), .int (nI i7), .int (nI i11), .int (nI i16)]) (rest := [.int 8, .int 8, .ref kb]) ⟨hx, hb, hml, hown, hts⟩ (c_L_role l D cI cZ cJ (nI i4) (nI i7) (nI i11) (nI i16)) (va_cwS 4 hts gL_book_L_role rfl rfl rfl (by decide +kernel) ⟨Nat.le_of_ble_eq_true rfl, Nat.le_of_ble_eq_true rfl⟩) (hP.sub (ws' := []) [] rfl) hK hN rfl hl.1 rfl (Nat.le_of_ble_eq_true rfl) dL_book_120 ⟨Nat.le_of_ble_eq_true rfl, Nat.le_of_ble_eq_true rfl⟩ (fun r19 hr19 => ?_)
              obtain ⟨k20, hk20, rfl⟩ := hr19
              refine lv_imul hx hb dL_book_123 ?_
              refine lv_iadd hx hb dL_book_124 ?_
              refine lv_iload hx hb dL_book_125 (lv_at hl 0 rfl) ?_
              refine lv_iadd hx hb dL_book_127 ?_
              refine k_top (nI (8 + 8 * k20 + i16)) (ixA (by omega) (by omega)) ?_
              refine lv_dup2_11 hx hb dL_book_128 rfl rfl ?_
              refine k_iald (D := D) (j := (8 + 8 * k20 + i16)) (v := (b17 (8 + 8 * k20 + i16))) hx hb hK hP 2 0 rfl rfl rfl (by omega) (Nat.le_of_ble_eq_true rfl) rfl dL_book_129 ?_
              refine lv_iconst (v := 1) hx hb dL_book_130 (by decide) ?_
              refine lv_iadd hx hb dL_book_131 ?_
              refine k_iast (D := D) (j := (8 + 8 * k20 + i16)) hx hb hK hP hD hS 2 0 rfl rfl rfl (by omega) (Nat.le_of_ble_eq_true rfl) dL_book_132 (fun H locs hP hD hS => ?_)
              have hP : va_P D vwCl [cA cI kg 13 g, cA cI kf 60 f, cA cI kb 40 (upd b17 (8 + 8 * k20 + i16) ((b17 (8 + 8 * k20 + i16)) + 1))] H := hP
              have hD : va_D A [cA cI kg 13 g, cA cI kf 60 f, cA cI kb 40 (upd b17 (8 + 8 * k20 + i16) ((b17 (8 + 8 * k20 + i16)) + 1))] := hD
              refine lv_iinc (v := (nI (i16 + 1))) (lv' := [(8, .int (nI (i16 + 1))), (7, .int (nI i11)), (6, .int (nI i7)), (5, .int (b5 0)), (4, .int (nI i4)), (0, .ref kg), (1, .ref kf), (2, .ref kb), (3, .int vw)]) hx hb dL_book_133 hl (k := 0) rfl (nI_1 i16) (by decide) rfl (fun ls hl => ?_)
              refine lv_goto (tgt := 99) hx hb dL_book_136 (by decide) ?_
              exact ihi16 (upd b17 (8 + 8 * k20 + i16) ((b17 (8 + 8 * k20 + i16)) + 1)) hlti16 trivial _ _ ls hP hD hS (lv_sub hl [0, 1, 2, 3, 4, 5, 6, 7, 8] rfl)
          · refine lv_goto (tgt := 139) hx hb dL_book_86 (by decide) ?_
            refine lv_iinc (v := (nI (i11 + 1))) (lv' := [(7, .int (nI (i11 + 1))), (6, .int (nI i7)), (5, .int (b5 0)), (4, .int (nI i4)), (0, .ref kg), (1, .ref kf), (2, .ref kb), (3, .int vw)]) hx hb dL_book_139 hl (k := 0) rfl (nI_1 i11) (by decide) rfl (fun ls hl => ?_)
            refine lv_goto (tgt := 63) hx hb dL_book_142 (by decide) ?_
            exact ihi11 b12 hlti11 trivial _ _ ls hP hD hS (lv_sub hl [0, 1, 2, 3, 4, 5, 6, 7] rfl)
  · have hlti1 : i1 < 40 := k_lt (N := 40) (by decide) (by decide) hii1 c3
    refine lv_aload_n hx hb dL_book_10 rfl (lv_at hl 3 rfl) ?_
    refine lv_iload hx hb dL_book_11 (lv_at hl 0 rfl) ?_
    refine lv_iconst (v := 0) hx hb dL_book_13 (by decide) ?_
    refine k_iast (D := D) (j := i1) hx hb hK hP hD hS 2 0 rfl rfl rfl (by omega) (Nat.le_of_ble_eq_true rfl) dL_book_14 (fun H locs hP hD hS => ?_)
    have hP : va_P D vwCl [cA cI kg 13 g, cA cI kf 60 f, cA cI kb 40 (upd b2 i1 0)] H := hP
    have hD : va_D A [cA cI kg 13 g, cA cI kf 60 f, cA cI kb 40 (upd b2 i1 0)] := hD
    refine lv_iinc (v := (nI (i1 + 1))) (lv' := [(4, .int (nI (i1 + 1))), (0, .ref kg), (1, .ref kf), (2, .ref kb), (3, .int vw)]) hx hb dL_book_15 hl (k := 0) rfl (nI_1 i1) (by decide) rfl (fun ls hl => ?_)
    refine lv_goto (tgt := 3) hx hb dL_book_18 (by decide) ?_
    exact ihi1 (upd b2 i1 0) hlti1 trivial _ _ ls hP hD hS (lv_sub hl [0, 1, 2, 3, 4] rfl)
