set_option maxHeartbeats 2000000 in
set_option maxRecDepth 100000 in
theorem c_J6_bitCount_0f7a4 (l : Launch) (D : va_G) (cI cZ cJ : ClassId) (x : Int32)  : Rd l D cI cZ cJ yJ6_bitCount_0f7a4 wsJ6_bitCount_0f7a4 0 0 [.int x] [] (yPop x) := by
  refine rd_of (by decide) rfl (Nat.le_of_ble_eq_true rfl) (fun p e s m below meth c ls hx hb hr hml hts hown hlocks hP hK hN hl => ?_)
  have hl : lv_has ls 1 [(0, .int x)] := hl
  refine lv_iload_n hx hb dJ6_bitCount_0f7a4_0 rfl (lv_at hl 0 rfl) ?_
  refine lv_iload_n hx hb dJ6_bitCount_0f7a4_1 rfl (lv_at hl 0 rfl) ?_
  refine lv_iconst (v := 1) hx hb dJ6_bitCount_0f7a4_2 (by decide) ?_
  refine lv_iushr hx hb dJ6_bitCount_0f7a4_3 rfl ?_
  refine lv_ldcw (v := 1431655765) hx hb hown (hts (.constant RJ6 265 (1431655765)) (List.mem_of_getElem? (i := 1) rfl)) dJ6_bitCount_0f7a4_4 ?_
  refine lv_iand hx hb dJ6_bitCount_0f7a4_7 ?_
  refine lv_isub hx hb dJ6_bitCount_0f7a4_8 ?_
  refine lv_topi (fun x_1 e_1 => ?_)
  refine lv_istore_n (lv' := [(0, .int x_1)]) hx hb dJ6_bitCount_0f7a4_9 rfl hl (by decide) rfl (fun ls hl => ?_)
  refine lv_iload_n hx hb dJ6_bitCount_0f7a4_10 rfl (lv_at hl 0 rfl) ?_
  refine lv_ldcw (v := 858993459) hx hb hown (hts (.constant RJ6 266 (858993459)) (List.mem_of_getElem? (i := 2) rfl)) dJ6_bitCount_0f7a4_11 ?_
  refine lv_iand hx hb dJ6_bitCount_0f7a4_14 ?_
  refine lv_iload_n hx hb dJ6_bitCount_0f7a4_15 rfl (lv_at hl 0 rfl) ?_
  refine lv_iconst (v := 2) hx hb dJ6_bitCount_0f7a4_16 (by decide) ?_
  refine lv_iushr hx hb dJ6_bitCount_0f7a4_17 rfl ?_
  refine lv_ldcw (v := 858993459) hx hb hown (hts (.constant RJ6 266 (858993459)) (List.mem_of_getElem? (i := 2) rfl)) dJ6_bitCount_0f7a4_18 ?_
  refine lv_iand hx hb dJ6_bitCount_0f7a4_21 ?_
  refine lv_iadd hx hb dJ6_bitCount_0f7a4_22 ?_
  refine lv_topi (fun x_2 e_2 => ?_)
  refine lv_istore_n (lv' := [(0, .int x_2)]) hx hb dJ6_bitCount_0f7a4_23 rfl hl (by decide) rfl (fun ls hl => ?_)
  refine lv_iload_n hx hb dJ6_bitCount_0f7a4_24 rfl (lv_at hl 0 rfl) ?_
  refine lv_iload_n hx hb dJ6_bitCount_0f7a4_25 rfl (lv_at hl 0 rfl) ?_
  refine lv_iconst (v := 4) hx hb dJ6_bitCount_0f7a4_26 (by decide) ?_
  refine lv_iushr hx hb dJ6_bitCount_0f7a4_27 rfl ?_
  refine lv_iadd hx hb dJ6_bitCount_0f7a4_28 ?_
  refine lv_ldcw (v := 252645135) hx hb hown (hts (.constant RJ6 267 (252645135)) (List.mem_of_getElem? (i := 3) rfl)) dJ6_bitCount_0f7a4_29 ?_
  refine lv_iand hx hb dJ6_bitCount_0f7a4_32 ?_
  refine lv_topi (fun x_3 e_3 => ?_)
  refine lv_istore_n (lv' := [(0, .int x_3)]) hx hb dJ6_bitCount_0f7a4_33 rfl hl (by decide) rfl (fun ls hl => ?_)
  refine lv_iload_n hx hb dJ6_bitCount_0f7a4_34 rfl (lv_at hl 0 rfl) ?_
  refine lv_iload_n hx hb dJ6_bitCount_0f7a4_35 rfl (lv_at hl 0 rfl) ?_
  refine lv_bipush (v := 8) hx hb dJ6_bitCount_0f7a4_36 (by decide) ?_
  refine lv_iushr hx hb dJ6_bitCount_0f7a4_38 rfl ?_
  refine lv_iadd hx hb dJ6_bitCount_0f7a4_39 ?_
  refine lv_topi (fun x_4 e_4 => ?_)
  refine lv_istore_n (lv' := [(0, .int x_4)]) hx hb dJ6_bitCount_0f7a4_40 rfl hl (by decide) rfl (fun ls hl => ?_)
  refine lv_iload_n hx hb dJ6_bitCount_0f7a4_41 rfl (lv_at hl 0 rfl) ?_
  refine lv_iload_n hx hb dJ6_bitCount_0f7a4_42 rfl (lv_at hl 0 rfl) ?_
  refine lv_bipush (v := 16) hx hb dJ6_bitCount_0f7a4_43 (by decide) ?_
  refine lv_iushr hx hb dJ6_bitCount_0f7a4_45 rfl ?_
  refine lv_iadd hx hb dJ6_bitCount_0f7a4_46 ?_
  refine lv_topi (fun x_5 e_5 => ?_)
  refine lv_istore_n (lv' := [(0, .int x_5)]) hx hb dJ6_bitCount_0f7a4_47 rfl hl (by decide) rfl (fun ls hl => ?_)
  refine lv_iload_n hx hb dJ6_bitCount_0f7a4_48 rfl (lv_at hl 0 rfl) ?_
  refine lv_bipush (v := 63) hx hb dJ6_bitCount_0f7a4_49 (by decide) ?_
  refine lv_iand hx hb dJ6_bitCount_0f7a4_51 ?_
  exact rd_iret hx hb hr hlocks (by rw [e_5, e_4, e_3, e_2, e_1]; rfl) dJ6_bitCount_0f7a4_52

set_option maxHeartbeats 2000000 in
set_option maxRecDepth 100000 in
theorem c_fill8 (l : Launch) (D : va_G) (cI cZ cJ : ClassId) (sz : Nat) (hV : Nat) (g : Nat → Int32) (x : Int32)  : Mv l D cI cZ cJ yJ7_fill_53178 wsJ7_fill_53178 0 0 sz [.ref hV, .int x] [cA cI hV 8 g] [cA cI hV 8 (iUp (fun _ => x) g 8)] := by
  refine mv_of (by decide) rfl (Nat.le_of_ble_eq_true rfl) (fun p e s m below meth c ls A hx hb hr hml hts hown hlocks hin hP hK hN hD hA hS hl => ?_)
  have hl : lv_has ls 4 [(0, .ref hV), (1, .int x)] := hl
  refine lv_iconst (v := 0) hx hb dJ7_fill_53178_0 (by decide) ?_
  refine lv_istore_n (lv' := [(2, .int 0), (0, .ref hV), (1, .int x)]) hx hb dJ7_fill_53178_1 rfl hl (by decide) rfl (fun ls hl => ?_)
  refine lv_aload_n hx hb dJ7_fill_53178_2 rfl (lv_at hl 1 rfl) ?_
  refine va_alen (D := D) (cl := vwCl) hx hb hK hP 0 0 rfl rfl (v := 8) rfl dJ7_fill_53178_3 ?_
  refine lv_istore_n (lv' := [(3, .int 8), (2, .int 0), (0, .ref hV), (1, .int x)]) hx hb dJ7_fill_53178_4 rfl hl (by decide) rfl (fun ls hl => ?_)
  refine loop_M (D := D) (nL := 4) (h := 5) 8 (fun i => [(0, .ref hV), (1, .int x), (2, .int (nI i)), (3, .int 8)]) (fun i => [cA cI hV 8 (iUp (fun _ => x) g i)]) (fun _ => True) (fun i hi hI ih_i H locs ls hP hD hS hl => ?_) 0 (by omega) trivial _ _ ls ?_ ?_ hS ?_
  · have hl : lv_has ls 4 [(0, .ref hV), (1, .int x), (2, .int (nI i)), (3, .int 8)] := hl
    have hP : va_P D vwCl [cA cI hV 8 (iUp (fun _ => x) g i)] H := hP
    have hD : va_D A [cA cI hV 8 (iUp (fun _ => x) g i)] := hD
    refine lv_iload_n hx hb dJ7_fill_53178_5 rfl (lv_at hl 2 rfl) ?_
    refine lv_iload_n hx hb dJ7_fill_53178_6 rfl (lv_at hl 3 rfl) ?_
    refine lv_icmp_ge (tgt := 20) hx hb dJ7_fill_53178_7 (by decide) (fun c_2 => ?_) (fun c_2 => ?_)
    · have hi9 : 8 = i := (geN hi (by omega) rfl c_2).symm
      subst hi9
      have hP9 : va_P D vwCl [cA cI hV 8 (iUp (fun _ => x) g 8)] H := by
        exact hP
      exact mv_ret hx hb hr hlocks hS hP9 dJ7_fill_53178_20
    · have hlt : i < 8 := ltN hi (by omega) rfl c_2
      refine lv_aload_n hx hb dJ7_fill_53178_10 rfl (lv_at hl 0 rfl) ?_
      refine lv_iload_n hx hb dJ7_fill_53178_11 rfl (lv_at hl 2 rfl) ?_
      refine lv_iload_n hx hb dJ7_fill_53178_12 rfl (lv_at hl 1 rfl) ?_
      refine q_iast (D := D) (j := i) hx hb hK hP hD hS 0 0 rfl rfl (by omega) (Nat.le_of_ble_eq_true rfl) dJ7_fill_53178_13 (fun H locs hP hD hS => ?_)
      have hP : va_P D vwCl [cA cI hV 8 (upd (iUp (fun _ => x) g i) i x)] H := hP
      have hD : va_D A [cA cI hV 8 (upd (iUp (fun _ => x) g i) i x)] := hD
      refine lv_iinc (v := (nI (i + 1))) (lv' := [(2, .int (nI (i + 1))), (0, .ref hV), (1, .int x), (3, .int 8)]) hx hb dJ7_fill_53178_14 hl (k := 2) rfl (nI_1 i) (by decide) rfl (fun ls hl => ?_)
      refine lv_goto (tgt := 5) hx hb dJ7_fill_53178_17 (by decide) ?_
      have ew_0 : (iUp (fun _ => x) g (i + 1)) = (upd (iUp (fun _ => x) g i) i x) := by exact iUp_step rfl
      exact ih_i (by omega) trivial _ _ ls (by show va_P D vwCl [cA cI hV 8 (iUp (fun _ => x) g (i + 1))] _; rw [ew_0]; exact hP) (by show va_D A [cA cI hV 8 (iUp (fun _ => x) g (i + 1))]; rw [ew_0]; exact hD) hS (by show lv_has ls 4 [(0, .ref hV), (1, .int x), (2, .int (nI (i + 1))), (3, .int 8)]; exact lv_sub hl [1, 2, 0, 3] rfl)
  · show va_P D vwCl [cA cI hV 8 (iUp (fun _ => x) g 0)] _
    have ez_0 : (iUp (fun _ => x) g 0) = g := by exact iUp_0 _ _
    rw [ez_0]
    exact hP
  · show va_D A [cA cI hV 8 (iUp (fun _ => x) g 0)]
    have ez_0 : (iUp (fun _ => x) g 0) = g := by exact iUp_0 _ _
    rw [ez_0]
    exact hD
  · show lv_has ls 4 [(0, .ref hV), (1, .int x), (2, .int (nI 0)), (3, .int 8)]
    have en_0 : (nI 0) = 0 := by exact nI_0
    rw [en_0]
    exact lv_sub hl [2, 3, 1, 0] rfl

set_option maxHeartbeats 2000000 in
set_option maxRecDepth 100000 in
theorem c_fill1120 (l : Launch) (D : va_G) (cI cZ cJ : ClassId) (sz : Nat) (hG : Nat) (g : Nat → Int32) (x : Int32)  : Mv l D cI cZ cJ yJ7_fill_53178 wsJ7_fill_53178 0 0 sz [.ref hG, .int x] [cA cI hG 1120 g] [cA cI hG 1120 (iUp (fun _ => x) g 1120)] := by
  refine mv_of (by decide) rfl (Nat.le_of_ble_eq_true rfl) (fun p e s m below meth c ls A hx hb hr hml hts hown hlocks hin hP hK hN hD hA hS hl => ?_)
  have hl : lv_has ls 4 [(0, .ref hG), (1, .int x)] := hl
  refine lv_iconst (v := 0) hx hb dJ7_fill_53178_0 (by decide) ?_
  refine lv_istore_n (lv' := [(2, .int 0), (0, .ref hG), (1, .int x)]) hx hb dJ7_fill_53178_1 rfl hl (by decide) rfl (fun ls hl => ?_)
  refine lv_aload_n hx hb dJ7_fill_53178_2 rfl (lv_at hl 1 rfl) ?_
  refine va_alen (D := D) (cl := vwCl) hx hb hK hP 0 0 rfl rfl (v := 1120) rfl dJ7_fill_53178_3 ?_
  refine lv_istore_n (lv' := [(3, .int 1120), (2, .int 0), (0, .ref hG), (1, .int x)]) hx hb dJ7_fill_53178_4 rfl hl (by decide) rfl (fun ls hl => ?_)
  refine loop_M (D := D) (nL := 4) (h := 5) 1120 (fun i => [(0, .ref hG), (1, .int x), (2, .int (nI i)), (3, .int 1120)]) (fun i => [cA cI hG 1120 (iUp (fun _ => x) g i)]) (fun _ => True) (fun i hi hI ih_i H locs ls hP hD hS hl => ?_) 0 (by omega) trivial _ _ ls ?_ ?_ hS ?_
  · have hl : lv_has ls 4 [(0, .ref hG), (1, .int x), (2, .int (nI i)), (3, .int 1120)] := hl
    have hP : va_P D vwCl [cA cI hG 1120 (iUp (fun _ => x) g i)] H := hP
    have hD : va_D A [cA cI hG 1120 (iUp (fun _ => x) g i)] := hD
    refine lv_iload_n hx hb dJ7_fill_53178_5 rfl (lv_at hl 2 rfl) ?_
    refine lv_iload_n hx hb dJ7_fill_53178_6 rfl (lv_at hl 3 rfl) ?_
    refine lv_icmp_ge (tgt := 20) hx hb dJ7_fill_53178_7 (by decide) (fun c_2 => ?_) (fun c_2 => ?_)
    · have hi9 : 1120 = i := (geN hi (by omega) rfl c_2).symm
      subst hi9
      have hP9 : va_P D vwCl [cA cI hG 1120 (iUp (fun _ => x) g 1120)] H := by
        exact hP
      exact mv_ret hx hb hr hlocks hS hP9 dJ7_fill_53178_20
    · have hlt : i < 1120 := ltN hi (by omega) rfl c_2
      refine lv_aload_n hx hb dJ7_fill_53178_10 rfl (lv_at hl 0 rfl) ?_
      refine lv_iload_n hx hb dJ7_fill_53178_11 rfl (lv_at hl 2 rfl) ?_
      refine lv_iload_n hx hb dJ7_fill_53178_12 rfl (lv_at hl 1 rfl) ?_
      refine q_iast (D := D) (j := i) hx hb hK hP hD hS 0 0 rfl rfl (by omega) (Nat.le_of_ble_eq_true rfl) dJ7_fill_53178_13 (fun H locs hP hD hS => ?_)
      have hP : va_P D vwCl [cA cI hG 1120 (upd (iUp (fun _ => x) g i) i x)] H := hP
      have hD : va_D A [cA cI hG 1120 (upd (iUp (fun _ => x) g i) i x)] := hD
      refine lv_iinc (v := (nI (i + 1))) (lv' := [(2, .int (nI (i + 1))), (0, .ref hG), (1, .int x), (3, .int 1120)]) hx hb dJ7_fill_53178_14 hl (k := 2) rfl (nI_1 i) (by decide) rfl (fun ls hl => ?_)
      refine lv_goto (tgt := 5) hx hb dJ7_fill_53178_17 (by decide) ?_
      have ew_0 : (iUp (fun _ => x) g (i + 1)) = (upd (iUp (fun _ => x) g i) i x) := by exact iUp_step rfl
      exact ih_i (by omega) trivial _ _ ls (by show va_P D vwCl [cA cI hG 1120 (iUp (fun _ => x) g (i + 1))] _; rw [ew_0]; exact hP) (by show va_D A [cA cI hG 1120 (iUp (fun _ => x) g (i + 1))]; rw [ew_0]; exact hD) hS (by show lv_has ls 4 [(0, .ref hG), (1, .int x), (2, .int (nI (i + 1))), (3, .int 1120)]; exact lv_sub hl [1, 2, 0, 3] rfl)
  · show va_P D vwCl [cA cI hG 1120 (iUp (fun _ => x) g 0)] _
    have ez_0 : (iUp (fun _ => x) g 0) = g := by exact iUp_0 _ _
    rw [ez_0]
    exact hP
  · show va_D A [cA cI hG 1120 (iUp (fun _ => x) g 0)]
    have ez_0 : (iUp (fun _ => x) g 0) = g := by exact iUp_0 _ _
    rw [ez_0]
    exact hD
  · show lv_has ls 4 [(0, .ref hG), (1, .int x), (2, .int (nI 0)), (3, .int 1120)]
    have en_0 : (nI 0) = 0 := by exact nI_0
    rw [en_0]
    exact lv_sub hl [2, 3, 1, 0] rfl
