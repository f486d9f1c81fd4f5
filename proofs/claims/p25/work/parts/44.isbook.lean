def BOK (x : Int32) : Prop := x = -1 ∨ ∃ j : Nat, j < 4 ∧ x = nI j
theorem bok_ge {x : Int32} (h : BOK x) (c : ¬ x < 0) : ∃ j : Nat, j < 4 ∧ x = nI j := by
  rcases h with rfl | h
  · exact absurd (by decide) c
  · exact h
theorem bok_n {j : Nat} (h : j < 4) : BOK (nI j) := Or.inr ⟨j, h, rfl⟩
theorem k3 {j : Nat} (h : j < 4) : nI j ≤ 3 := nI_le (show j ≤ 3 by omega) (by decide)
theorem kx3 {a : Nat → Int32} {q : Int32} (h0 : a 0 = 1) (h2 : a 2 = 4) (hv : yVw a q = true) : kYx a q 0 4 = 3 := by
  unfold kYx yPl
  rw [h0, h2, hv]
  decide
theorem kx2 {a : Nat → Int32} {q : Int32} (h0 : a 0 = 1) (h2 : a 2 = 4) (hv : yVw a q = true) : kYx a q 4 4 = 2 := by
  unfold kYx yPl
  rw [h0, h2, hv]
  decide
theorem ki2 {a : Nat → Int32} {q : Int32} (h0 : a 0 = 1) (h2 : a 2 = 4) (hv : yVw a q = true) : kYi a q 4 0 = 2 := by
  unfold kYi yPl
  rw [h0, h2, hv]
  decide
set_option maxHeartbeats 4000000 in
set_option maxRecDepth 100000 in
theorem c_L_isBook (l : Launch) (D : va_G) (cI cZ cJ : ClassId) (sz : Nat) (hst : l.stackTraces = false) (hT hB hV : Nat) (a : Nat → Int32) (hG : Nat) (tr : Int32) (pg : Nat → Int32) (kg kf kb : Nat) (g f b : Nat → Int32) (y vw : Int32) (K : Nat) (hK9 : K ≤ 1120) (hgz : ∀ j, j < K → ¬ pg j = 0) (hz : K < 1120 → pg K = 0) (ha0 : a 0 = 1) (ha2 : a 2 = 4) (hv : yVw a vw = true) (hy6 : y &&& 6 = 0) (hy24 : y &&& 24 = 0) (hy96 : y &&& 96 = 0) (hg1 : g 1 = 4) (hg2 : g 2 = 1) (hg3 : g 3 = 1) (hg4 : g 4 = 2) (hg8 : g 8 = 0) : Mg (α := Nat × (Nat → Int32)) l D cI cZ cJ yL_isBook wsL_isBook 10 182 3 18 sz [.ref hT, .int y, .ref kg, .ref kf, .ref kb, .int vw] [cT hT hB hV a, cB hB hG tr, cA cI hG 1120 pg, cA cI kg 13 g, cA cI kf 60 f, cA cI kb 40 b] (fun u => [cT hT hB hV a, cB hB hG tr, cA cI hG 1120 pg, cA cI kg 13 g, cA cI kf 60 f, cA cI kb 40 u.2]) (fun r u => (r = 0 ∧ u.1 = 0) ∨ (r = 1 ∧ u.1 = 3)) (fun u => u.1) := by
  refine mg_of (by decide) rfl (Nat.le_of_ble_eq_true rfl) (fun p e s m below meth c ls A hx hb hr hml hts hown hlocks hP hK hN hD hA hS hZ hY hXn hl => ?_)
  have hl : lv_has ls 12 [(0, .ref hT), (1, .int y), (2, .ref kg), (3, .ref kf), (4, .ref kb), (5, .int vw)] := hl
  have hn9 : a 2 = nI 4 := ha2
  refine lv_aload_n hx hb dL_isBook_0 rfl (lv_at hl 2 rfl) ?_
  refine lv_aload_n hx hb dL_isBook_1 rfl (lv_at hl 3 rfl) ?_
  refine lv_aload hx hb dL_isBook_2 (lv_at hl 4 rfl) ?_
  refine lv_iload hx hb dL_isBook_4 (lv_at hl 5 rfl) ?_
  refine mgv_S (As := [.ref kg, .ref kf, .ref kb, .int vw]) (rest := []) ⟨hx, hb, hml, hown, hts⟩ (c_L_book l D cI cZ cJ _ kg kf kb g f b vw hg1 hg8) (va_cwS 4 hts gL_isBook_L_book rfl rfl rfl (by decide +kernel) ⟨Nat.le_of_ble_eq_true rfl, Nat.le_of_ble_eq_true rfl⟩) hP hD hK hN hS hA rfl hl.1 rfl (Nat.le_of_ble_eq_true rfl) dL_isBook_6 ⟨Nat.le_of_ble_eq_true rfl, Nat.le_of_ble_eq_true rfl⟩ [3, 4, 5] [0, 1, 2] rfl rfl (fun b1 => [cT hT hB hV a, cB hB hG tr, cA cI hG 1120 pg, cA cI kg 13 g, cA cI kf 60 f, cA cI kb 40 b1]) (fun _ => rfl) (fun _ => (by intro i9 h9; simp only [List.mem_cons, List.not_mem_nil, or_false] at h9; rcases h9 with rfl | rfl | rfl <;> rfl)) (fun _ => rfl) 6 (fun _ => rfl) (by decide) (by decide) (fun b1 H locs hP hD hS hG2 => ?_)
  have hP : va_P D vwCl [cT hT hB hV a, cB hB hG tr, cA cI hG 1120 pg, cA cI kg 13 g, cA cI kf 60 f, cA cI kb 40 b1] H := hP
  have hD : va_D A [cT hT hB hV a, cB hB hG tr, cA cI hG 1120 pg, cA cI kg 13 g, cA cI kf 60 f, cA cI kb 40 b1] := hD
  refine lv_iconst (v := 1) hx hb dL_isBook_9 (by decide) ?_
  refine lv_aload_n hx hb dL_isBook_10 rfl (lv_at hl 2 rfl) ?_
  refine lv_iconst (v := 1) hx hb dL_isBook_11 (by decide) ?_
  refine k_iald (D := D) (j := 1) (v := 4) hx hb hK hP 3 0 rfl rfl (by decide) (by decide) (Nat.le_of_ble_eq_true rfl) hg1 dL_isBook_12 ?_
  refine lv_ishl hx hb dL_isBook_13 ?_
  refine k_top 16 (by decide) ?_
  refine lv_iconst (v := 1) hx hb dL_isBook_14 (by decide) ?_
  refine lv_isub hx hb dL_isBook_15 ?_
  refine k_top 15 (by decide) ?_
  refine lv_istore (lv' := [(6, .int 15), (0, .ref hT), (1, .int y), (2, .ref kg), (3, .ref kf), (4, .ref kb), (5, .int vw)]) hx hb dL_isBook_16 hl (by decide) rfl (fun ls hl => ?_)
  refine lv_iconst (v := (-1)) hx hb dL_isBook_18 (by decide) ?_
  refine lv_istore (lv' := [(7, .int (-1)), (6, .int 15), (0, .ref hT), (1, .int y), (2, .ref kg), (3, .ref kf), (4, .ref kb), (5, .int vw)]) hx hb dL_isBook_19 hl (by decide) rfl (fun ls hl => ?_)
  refine lv_iconst (v := (-1)) hx hb dL_isBook_21 (by decide) ?_
  refine lv_istore (lv' := [(8, .int (-1)), (7, .int (-1)), (6, .int 15), (0, .ref hT), (1, .int y), (2, .ref kg), (3, .ref kf), (4, .ref kb), (5, .int vw)]) hx hb dL_isBook_22 hl (by decide) rfl (fun ls hl => ?_)
  refine lv_iconst (v := 0) hx hb dL_isBook_24 (by decide) ?_
  refine lv_istore (lv' := [(9, .int 0), (8, .int (-1)), (7, .int (-1)), (6, .int 15), (0, .ref hT), (1, .int y), (2, .ref kg), (3, .ref kf), (4, .ref kb), (5, .int vw)]) hx hb dL_isBook_25 hl (by decide) rfl (fun ls hl => ?_)
  refine loop_RX (α := Int32 × Int32) (nL := 12) (h := 27) 4 (fun i5 x6 => [(9, .int (nI i5)), (8, .int x6.2), (7, .int x6.1), (6, .int 15), (0, .ref hT), (1, .int y), (2, .ref kg), (3, .ref kf), (4, .ref kb), (5, .int vw)]) (fun _ x6 => BOK x6.1 ∧ BOK x6.2) (fun i5 x6 hii5 hIi5 ihi5 ls hl => ?_) 0 ((-1), (-1)) (Nat.zero_le _) ⟨Or.inl rfl, Or.inl rfl⟩ ls (lv_sub hl [0, 1, 2, 3, 4, 5, 6, 7, 8, 9] rfl)
  obtain ⟨u3, u4⟩ := x6
  have hl : lv_has ls 12 [(9, .int (nI i5)), (8, .int u4), (7, .int u3), (6, .int 15), (0, .ref hT), (1, .int y), (2, .ref kg), (3, .ref kf), (4, .ref kb), (5, .int vw)] := hl
  have hIi5 : BOK u3 ∧ BOK u4 := hIi5
  refine lv_iload hx hb dL_isBook_27 (lv_at hl 0 rfl) ?_
  refine lv_aload_n hx hb dL_isBook_29 rfl (lv_at hl 6 rfl) ?_
  refine lv_iconst (v := 1) hx hb dL_isBook_30 (by decide) ?_
  refine k_iald (D := D) (j := 1) (v := 4) hx hb hK hP 3 0 rfl rfl (by decide) (by decide) (Nat.le_of_ble_eq_true rfl) hg1 dL_isBook_31 ?_
  refine lv_icmp_ge (tgt := 250) hx hb dL_isBook_32 (by decide) (fun c7 => ?_) (fun c7 => ?_)
  · refine k_join (α := Unit) (nL := 12) (h := 269) (fun _ => [(0, .ref hT), (1, .int y), (2, .ref kg), (3, .ref kf), (4, .ref kb), (5, .int vw), (6, .int 15), (7, .int u3), (8, .int u4), (9, .int (nI i5))]) (fun _ => []) (fun _ => True) ?_ (fun J8 => ?_)
    · intro _ hvJ8 ls hl
      have hl : lv_has ls 12 [(0, .ref hT), (1, .int y), (2, .ref kg), (3, .ref kf), (4, .ref kb), (5, .int vw), (6, .int 15), (7, .int u3), (8, .int u4), (9, .int (nI i5))] := hl
      refine lv_iload_n hx hb dL_isBook_269 rfl (lv_at hl 1 rfl) ?_
      refine lv_bipush (v := 6) hx hb dL_isBook_270 (by decide) ?_
      refine lv_iand hx hb dL_isBook_272 ?_
      refine k_top 0 hy6 ?_
      refine lv_if_ne (tgt := 282) hx hb dL_isBook_273 (by decide) (fun c10 => ?_) (fun c10 => ?_)
      · exact absurd c10 (by decide)
      · refine lv_aload_n hx hb dL_isBook_276 rfl (lv_at hl 2 rfl) ?_
        refine lv_iconst (v := 2) hx hb dL_isBook_277 (by decide) ?_
        refine k_iald (D := D) (j := 2) (v := 1) hx hb hK hP 3 0 rfl rfl (by decide) (by decide) (Nat.le_of_ble_eq_true rfl) hg2 dL_isBook_278 ?_
        refine lv_goto (tgt := 293) hx hb dL_isBook_279 (by decide) ?_
        refine lv_istore (lv' := [(9, .int 1), (0, .ref hT), (1, .int y), (2, .ref kg), (3, .ref kf), (4, .ref kb), (5, .int vw), (6, .int 15), (7, .int u3), (8, .int u4)]) hx hb dL_isBook_293 hl (by decide) rfl (fun ls hl => ?_)
        refine lv_iload_n hx hb dL_isBook_295 rfl (lv_at hl 2 rfl) ?_
        refine lv_bipush (v := 24) hx hb dL_isBook_296 (by decide) ?_
        refine lv_iand hx hb dL_isBook_298 ?_
        refine k_top 0 hy24 ?_
        refine lv_if_ne (tgt := 308) hx hb dL_isBook_299 (by decide) (fun c11 => ?_) (fun c11 => ?_)
        · exact absurd c11 (by decide)
        · refine lv_aload_n hx hb dL_isBook_302 rfl (lv_at hl 3 rfl) ?_
          refine lv_iconst (v := 3) hx hb dL_isBook_303 (by decide) ?_
          refine k_iald (D := D) (j := 3) (v := 1) hx hb hK hP 3 0 rfl rfl (by decide) (by decide) (Nat.le_of_ble_eq_true rfl) hg3 dL_isBook_304 ?_
          refine lv_goto (tgt := 318) hx hb dL_isBook_305 (by decide) ?_
          refine lv_istore (lv' := [(10, .int 1), (9, .int 1), (0, .ref hT), (1, .int y), (2, .ref kg), (3, .ref kf), (4, .ref kb), (5, .int vw), (6, .int 15), (7, .int u3), (8, .int u4)]) hx hb dL_isBook_318 hl (by decide) rfl (fun ls hl => ?_)
          refine lv_iload_n hx hb dL_isBook_320 rfl (lv_at hl 3 rfl) ?_
          refine lv_bipush (v := 96) hx hb dL_isBook_321 (by decide) ?_
          refine lv_iand hx hb dL_isBook_323 ?_
          refine k_top 0 hy96 ?_
          refine lv_if_ne (tgt := 333) hx hb dL_isBook_324 (by decide) (fun c12 => ?_) (fun c12 => ?_)
          · exact absurd c12 (by decide)
          · refine lv_aload_n hx hb dL_isBook_327 rfl (lv_at hl 4 rfl) ?_
            refine lv_iconst (v := 4) hx hb dL_isBook_328 (by decide) ?_
            refine k_iald (D := D) (j := 4) (v := 2) hx hb hK hP 3 0 rfl rfl (by decide) (by decide) (Nat.le_of_ble_eq_true rfl) hg4 dL_isBook_329 ?_
            refine lv_goto (tgt := 343) hx hb dL_isBook_330 (by decide) ?_
            refine lv_istore (lv' := [(11, .int 2), (10, .int 1), (9, .int 1), (0, .ref hT), (1, .int y), (2, .ref kg), (3, .ref kf), (4, .ref kb), (5, .int vw), (6, .int 15), (7, .int u3), (8, .int u4)]) hx hb dL_isBook_343 hl (by decide) rfl (fun ls hl => ?_)
            refine lv_aload_n hx hb dL_isBook_345 rfl (lv_at hl 3 rfl) ?_
            refine lv_iload hx hb dL_isBook_346 (lv_at hl 8 rfl) ?_
            refine rd_SW (As := [.ref hT, .int vw]) (rest := []) ⟨hx, hb, hml, hown, hts⟩ (c_L_worlds l D cI cZ cJ hT hB hV a hG tr pg vw K hK9 hgz hz (by rw [ha0]; decide) hv) (vx_cwSW 2 hts gL_isBook_L_worlds rfl rfl rfl (by decide +kernel) ⟨Nat.le_of_ble_eq_true rfl, Nat.le_of_ble_eq_true rfl⟩) (hP.sub (ws' := [cT hT hB hV a, cB hB hG tr, cA cI hG 1120 pg]) [0, 1, 2] rfl) hK hN rfl hl.1 rfl (Nat.le_of_ble_eq_true rfl) dL_isBook_348 ⟨Nat.le_of_ble_eq_true rfl, Nat.le_of_ble_eq_true rfl⟩ ?_
            refine lv_aload hx hb dL_isBook_351 (lv_at hl 7 rfl) ?_
            refine lv_iconst (v := 0) hx hb dL_isBook_353 (by decide) ?_
            refine k_iald (D := D) (j := 0) (v := (b1 0)) hx hb hK hP 5 0 rfl rfl (by decide) (by decide) (Nat.le_of_ble_eq_true rfl) rfl dL_isBook_354 ?_
            refine lv_icmp_ne (tgt := 563) hx hb dL_isBook_355 (by decide) (fun c13 => ?_) (fun c13 => ?_)
            · refine lv_iconst (v := 0) hx hb dL_isBook_563 (by decide) ?_
              exact mg_zret (0, b1) hx hb hr hlocks hS (Nat.le_of_ble_eq_true rfl) (Nat.le_of_ble_eq_true rfl) (Or.inl ⟨rfl, rfl⟩) rfl hP (by have h9 := hS.1; dsimp only; omega) dL_isBook_564
            · refine lv_aload hx hb dL_isBook_358 (lv_at hl 7 rfl) ?_
              refine lv_iconst (v := 0) hx hb dL_isBook_360 (by decide) ?_
              refine k_iald (D := D) (j := 0) (v := (b1 0)) hx hb hK hP 5 0 rfl rfl (by decide) (by decide) (Nat.le_of_ble_eq_true rfl) rfl dL_isBook_361 ?_
              refine lv_if_le (tgt := 563) hx hb dL_isBook_362 (by decide) (fun c14 => ?_) (fun c14 => ?_)
              · refine lv_iconst (v := 0) hx hb dL_isBook_563 (by decide) ?_
                exact mg_zret (0, b1) hx hb hr hlocks hS (Nat.le_of_ble_eq_true rfl) (Nat.le_of_ble_eq_true rfl) (Or.inl ⟨rfl, rfl⟩) rfl hP (by have h9 := hS.1; dsimp only; omega) dL_isBook_564
              · refine lv_aload_n hx hb dL_isBook_365 rfl (lv_at hl 3 rfl) ?_
                refine lv_iload hx hb dL_isBook_366 (lv_at hl 8 rfl) ?_
                refine rd_V (b := hT) (As := [.int vw]) (rest := []) ⟨hx, hb, hml, hown, hts⟩ (c_X1_sureWitches l D cI cZ cJ hT hB hV a hG tr pg vw K hK9 hgz hz (by rw [ha0]; decide) hv) (cwV 1 hts gL_isBook_X1_sureWitches rfl rfl rfl (by decide +kernel) ⟨Nat.le_of_ble_eq_true rfl, Nat.le_of_ble_eq_true rfl⟩) (hP.sub (ws' := [cT hT hB hV a, cB hB hG tr, cA cI hG 1120 pg]) [0, 1, 2] rfl) hK hN (va_recv hK hP (ci := 1) (q0 := 0) rfl rfl) rfl hl.1 rfl (Nat.le_of_ble_eq_true rfl) dL_isBook_368 ⟨Nat.le_of_ble_eq_true rfl, Nat.le_of_ble_eq_true rfl⟩ ?_
                refine lv_aload hx hb dL_isBook_371 (lv_at hl 7 rfl) ?_
                refine lv_iconst (v := 2) hx hb dL_isBook_373 (by decide) ?_
                refine k_iald (D := D) (j := 2) (v := (b1 2)) hx hb hK hP 5 0 rfl rfl (by decide) (by decide) (Nat.le_of_ble_eq_true rfl) rfl dL_isBook_374 ?_
                refine lv_icmp_ne (tgt := 563) hx hb dL_isBook_375 (by decide) (fun c15 => ?_) (fun c15 => ?_)
                · refine lv_iconst (v := 0) hx hb dL_isBook_563 (by decide) ?_
                  exact mg_zret (0, b1) hx hb hr hlocks hS (Nat.le_of_ble_eq_true rfl) (Nat.le_of_ble_eq_true rfl) (Or.inl ⟨rfl, rfl⟩) rfl hP (by have h9 := hS.1; dsimp only; omega) dL_isBook_564
                · refine lv_aload_n hx hb dL_isBook_378 rfl (lv_at hl 3 rfl) ?_
                  refine lv_iload hx hb dL_isBook_379 (lv_at hl 8 rfl) ?_
                  refine rd_V (b := hT) (As := [.int vw]) (rest := []) ⟨hx, hb, hml, hown, hts⟩ (c_X1_sureHonest l D cI cZ cJ hT hB hV a hG tr pg vw K hK9 hgz hz (by rw [ha0]; decide) hv) (cwV 1 hts gL_isBook_X1_sureHonest rfl rfl rfl (by decide +kernel) ⟨Nat.le_of_ble_eq_true rfl, Nat.le_of_ble_eq_true rfl⟩) (hP.sub (ws' := [cT hT hB hV a, cB hB hG tr, cA cI hG 1120 pg]) [0, 1, 2] rfl) hK hN (va_recv hK hP (ci := 1) (q0 := 0) rfl rfl) rfl hl.1 rfl (Nat.le_of_ble_eq_true rfl) dL_isBook_381 ⟨Nat.le_of_ble_eq_true rfl, Nat.le_of_ble_eq_true rfl⟩ ?_
                  refine lv_iload hx hb dL_isBook_384 (lv_at hl 9 rfl) ?_
                  refine lv_aload hx hb dL_isBook_386 (lv_at hl 7 rfl) ?_
                  refine lv_iconst (v := 3) hx hb dL_isBook_388 (by decide) ?_
                  refine k_iald (D := D) (j := 3) (v := (b1 3)) hx hb hK hP 5 0 rfl rfl (by decide) (by decide) (Nat.le_of_ble_eq_true rfl) rfl dL_isBook_389 ?_
                  refine lv_iconst (v := (-1)) hx hb dL_isBook_390 (by decide) ?_
                  refine lv_ixor hx hb dL_isBook_391 ?_
                  refine lv_iand hx hb dL_isBook_392 ?_
                  refine lv_icmp_ne (tgt := 563) hx hb dL_isBook_393 (by decide) (fun c16 => ?_) (fun c16 => ?_)
                  · refine lv_iconst (v := 0) hx hb dL_isBook_563 (by decide) ?_
                    exact mg_zret (0, b1) hx hb hr hlocks hS (Nat.le_of_ble_eq_true rfl) (Nat.le_of_ble_eq_true rfl) (Or.inl ⟨rfl, rfl⟩) rfl hP (by have h9 := hS.1; dsimp only; omega) dL_isBook_564
                  · refine lv_aload_n hx hb dL_isBook_396 rfl (lv_at hl 3 rfl) ?_
                    refine lv_iload hx hb dL_isBook_397 (lv_at hl 8 rfl) ?_
                    refine rd_V (b := hT) (As := [.int vw]) (rest := []) ⟨hx, hb, hml, hown, hts⟩ (c_X1_witchSets l D cI cZ cJ hT hB hV a hG tr pg vw K hK9 hgz hz (by rw [ha0]; decide) hv) (cwV 1 hts gL_isBook_X1_witchSets rfl rfl rfl (by decide +kernel) ⟨Nat.le_of_ble_eq_true rfl, Nat.le_of_ble_eq_true rfl⟩) (hP.sub (ws' := [cT hT hB hV a, cB hB hG tr, cA cI hG 1120 pg]) [0, 1, 2] rfl) hK hN (va_recv hK hP (ci := 1) (q0 := 0) rfl rfl) rfl hl.1 rfl (Nat.le_of_ble_eq_true rfl) dL_isBook_399 ⟨Nat.le_of_ble_eq_true rfl, Nat.le_of_ble_eq_true rfl⟩ ?_
                    refine lv_aload hx hb dL_isBook_402 (lv_at hl 7 rfl) ?_
                    refine lv_iconst (v := 1) hx hb dL_isBook_404 (by decide) ?_
                    refine k_iald (D := D) (j := 1) (v := (b1 1)) hx hb hK hP 5 0 rfl rfl (by decide) (by decide) (Nat.le_of_ble_eq_true rfl) rfl dL_isBook_405 ?_
                    refine lv_icmp_ne (tgt := 563) hx hb dL_isBook_406 (by decide) (fun c17 => ?_) (fun c17 => ?_)
                    · refine lv_iconst (v := 0) hx hb dL_isBook_563 (by decide) ?_
                      exact mg_zret (0, b1) hx hb hr hlocks hS (Nat.le_of_ble_eq_true rfl) (Nat.le_of_ble_eq_true rfl) (Or.inl ⟨rfl, rfl⟩) rfl hP (by have h9 := hS.1; dsimp only; omega) dL_isBook_564
                    · refine lv_aload_n hx hb dL_isBook_409 rfl (lv_at hl 3 rfl) ?_
                      refine lv_iload hx hb dL_isBook_410 (lv_at hl 8 rfl) ?_
                      refine rd_V (b := hT) (As := [.int vw]) (rest := []) ⟨hx, hb, hml, hown, hts⟩ (c_X1_suspect l D cI cZ cJ hT hB hV a hG tr pg vw K 4 hK9 hgz hz hn9 (by decide) (by rw [ha0]; decide) hv) (cwV 1 hts gL_isBook_X1_suspect rfl rfl rfl (by decide +kernel) ⟨Nat.le_of_ble_eq_true rfl, Nat.le_of_ble_eq_true rfl⟩) (hP.sub (ws' := [cT hT hB hV a, cB hB hG tr, cA cI hG 1120 pg]) [0, 1, 2] rfl) hK hN (va_recv hK hP (ci := 1) (q0 := 0) rfl rfl) rfl hl.1 rfl (Nat.le_of_ble_eq_true rfl) dL_isBook_412 ⟨Nat.le_of_ble_eq_true rfl, Nat.le_of_ble_eq_true rfl⟩ ?_
                      refine lv_iload hx hb dL_isBook_415 (lv_at hl 10 rfl) ?_
                      refine lv_icmp_ne (tgt := 563) hx hb dL_isBook_417 (by decide) (fun c18 => ?_) (fun c18 => ?_)
                      · refine lv_iconst (v := 0) hx hb dL_isBook_563 (by decide) ?_
                        exact mg_zret (0, b1) hx hb hr hlocks hS (Nat.le_of_ble_eq_true rfl) (Nat.le_of_ble_eq_true rfl) (Or.inl ⟨rfl, rfl⟩) rfl hP (by have h9 := hS.1; dsimp only; omega) dL_isBook_564
                      · refine lv_aload_n hx hb dL_isBook_420 rfl (lv_at hl 3 rfl) ?_
                        refine lv_iload hx hb dL_isBook_421 (lv_at hl 8 rfl) ?_
                        refine lv_iload hx hb dL_isBook_423 (lv_at hl 2 rfl) ?_
                        refine lv_iload hx hb dL_isBook_425 (lv_at hl 1 rfl) ?_
                        refine lv_iload hx hb dL_isBook_427 (lv_at hl 0 rfl) ?_
                        refine rd_SW (As := [.ref hT, .int vw, .int 1, .int 1, .int 2]) (rest := []) ⟨hx, hb, hml, hown, hts⟩ (c_L_isPossible l D cI cZ cJ hT hB hV a hG tr pg vw 1 1 2 K hK9 hgz hz (by rw [ha0]; decide) hv (show yPl a 1 = true from r_a2 (i := 1) ha2 (by decide)) (show yPl a 2 = true from r_a2 (i := 2) ha2 (by decide))) (vx_cwSW 5 hts gL_isBook_L_isPossible rfl rfl rfl (by decide +kernel) ⟨Nat.le_of_ble_eq_true rfl, Nat.le_of_ble_eq_true rfl⟩) (hP.sub (ws' := [cT hT hB hV a, cB hB hG tr, cA cI hG 1120 pg]) [0, 1, 2] rfl) hK hN rfl hl.1 rfl (Nat.le_of_ble_eq_true rfl) dL_isBook_429 ⟨Nat.le_of_ble_eq_true rfl, Nat.le_of_ble_eq_true rfl⟩ ?_
                        refine k_join (α := Int32 × Int32) (nL := 12) (h := 453) (fun x20 => [(0, .ref hT), (1, .int y), (2, .ref kg), (3, .ref kf), (4, .ref kb), (5, .int vw), (6, .int 15), (7, .int u3), (8, .int u4), (9, .int 1), (10, .int 1), (11, .int 2)]) (fun x20 => [.int x20.1, .int x20.2]) (fun _ => True) ?_ (fun J19 => ?_)
                        · rintro ⟨t21, t22⟩ hvJ19 ls hl
                          have hl : lv_has ls 12 [(0, .ref hT), (1, .int y), (2, .ref kg), (3, .ref kf), (4, .ref kb), (5, .int vw), (6, .int 15), (7, .int u3), (8, .int u4), (9, .int 1), (10, .int 1), (11, .int 2)] := hl
                          refine lv_icmp_ne (tgt := 563) hx hb dL_isBook_453 (by decide) (fun c23 => ?_) (fun c23 => ?_)
                          · refine lv_iconst (v := 0) hx hb dL_isBook_563 (by decide) ?_
                            exact mg_zret (0, b1) hx hb hr hlocks hS (Nat.le_of_ble_eq_true rfl) (Nat.le_of_ble_eq_true rfl) (Or.inl ⟨rfl, rfl⟩) rfl hP (by have h9 := hS.1; dsimp only; omega) dL_isBook_564
                          · refine lv_aload_n hx hb dL_isBook_456 rfl (lv_at hl 0 rfl) ?_
                            refine lv_iload hx hb dL_isBook_457 (lv_at hl 5 rfl) ?_
                            refine lv_aload_n hx hb dL_isBook_459 rfl (lv_at hl 2 rfl) ?_
                            refine lv_iconst (v := 2) hx hb dL_isBook_460 (by decide) ?_
                            refine k_iald (D := D) (j := 2) (v := 1) hx hb hK hP 3 0 rfl rfl (by decide) (by decide) (Nat.le_of_ble_eq_true rfl) hg2 dL_isBook_461 ?_
                            refine lv_aload_n hx hb dL_isBook_462 rfl (lv_at hl 2 rfl) ?_
                            refine lv_iconst (v := 3) hx hb dL_isBook_463 (by decide) ?_
                            refine k_iald (D := D) (j := 3) (v := 1) hx hb hK hP 3 0 rfl rfl (by decide) (by decide) (Nat.le_of_ble_eq_true rfl) hg3 dL_isBook_464 ?_
                            refine lv_aload_n hx hb dL_isBook_465 rfl (lv_at hl 2 rfl) ?_
                            refine lv_iconst (v := 4) hx hb dL_isBook_466 (by decide) ?_
                            refine k_iald (D := D) (j := 4) (v := 2) hx hb hK hP 3 0 rfl rfl (by decide) (by decide) (Nat.le_of_ble_eq_true rfl) hg4 dL_isBook_467 ?_
                            refine rd_SW (As := [.ref hT, .int vw, .int 1, .int 1, .int 2]) (rest := []) ⟨hx, hb, hml, hown, hts⟩ (c_L_isPossible l D cI cZ cJ hT hB hV a hG tr pg vw 1 1 2 K hK9 hgz hz (by rw [ha0]; decide) hv (show yPl a 1 = true from r_a2 (i := 1) ha2 (by decide)) (show yPl a 2 = true from r_a2 (i := 2) ha2 (by decide))) (vx_cwSW 5 hts gL_isBook_L_isPossible rfl rfl rfl (by decide +kernel) ⟨Nat.le_of_ble_eq_true rfl, Nat.le_of_ble_eq_true rfl⟩) (hP.sub (ws' := [cT hT hB hV a, cB hB hG tr, cA cI hG 1120 pg]) [0, 1, 2] rfl) hK hN rfl hl.1 rfl (Nat.le_of_ble_eq_true rfl) dL_isBook_468 ⟨Nat.le_of_ble_eq_true rfl, Nat.le_of_ble_eq_true rfl⟩ ?_
                            refine lv_iconst (v := 1) hx hb dL_isBook_471 (by decide) ?_
                            refine lv_icmp_ne (tgt := 563) hx hb dL_isBook_472 (by decide) (fun c24 => ?_) (fun c24 => ?_)
                            · refine lv_iconst (v := 0) hx hb dL_isBook_563 (by decide) ?_
                              exact mg_zret (0, b1) hx hb hr hlocks hS (Nat.le_of_ble_eq_true rfl) (Nat.le_of_ble_eq_true rfl) (Or.inl ⟨rfl, rfl⟩) rfl hP (by have h9 := hS.1; dsimp only; omega) dL_isBook_564
                            · refine lv_aload_n hx hb dL_isBook_475 rfl (lv_at hl 0 rfl) ?_
                              refine lv_iload hx hb dL_isBook_476 (lv_at hl 5 rfl) ?_
                              refine lv_aload_n hx hb dL_isBook_478 rfl (lv_at hl 2 rfl) ?_
                              refine lv_iconst (v := 2) hx hb dL_isBook_479 (by decide) ?_
                              refine k_iald (D := D) (j := 2) (v := 1) hx hb hK hP 3 0 rfl rfl (by decide) (by decide) (Nat.le_of_ble_eq_true rfl) hg2 dL_isBook_480 ?_
                              refine lv_iconst (v := 1) hx hb dL_isBook_481 (by decide) ?_
                              refine lv_aload_n hx hb dL_isBook_482 rfl (lv_at hl 2 rfl) ?_
                              refine lv_iconst (v := 1) hx hb dL_isBook_483 (by decide) ?_
                              refine k_iald (D := D) (j := 1) (v := 4) hx hb hK hP 3 0 rfl rfl (by decide) (by decide) (Nat.le_of_ble_eq_true rfl) hg1 dL_isBook_484 ?_
                              refine lv_ishl hx hb dL_isBook_485 ?_
                              refine k_top 16 (by decide) ?_
                              refine lv_ior hx hb dL_isBook_486 ?_
                              refine k_top 17 (by decide) ?_
                              refine lv_aload_n hx hb dL_isBook_487 rfl (lv_at hl 2 rfl) ?_
                              refine lv_iconst (v := 3) hx hb dL_isBook_488 (by decide) ?_
                              refine k_iald (D := D) (j := 3) (v := 1) hx hb hK hP 3 0 rfl rfl (by decide) (by decide) (Nat.le_of_ble_eq_true rfl) hg3 dL_isBook_489 ?_
                              refine lv_aload_n hx hb dL_isBook_490 rfl (lv_at hl 2 rfl) ?_
                              refine lv_iconst (v := 4) hx hb dL_isBook_491 (by decide) ?_
                              refine k_iald (D := D) (j := 4) (v := 2) hx hb hK hP 3 0 rfl rfl (by decide) (by decide) (Nat.le_of_ble_eq_true rfl) hg4 dL_isBook_492 ?_
                              refine rd_SW (As := [.ref hT, .int vw, .int 17, .int 1, .int 2]) (rest := []) ⟨hx, hb, hml, hown, hts⟩ (c_L_isPossible l D cI cZ cJ hT hB hV a hG tr pg vw 17 1 2 K hK9 hgz hz (by rw [ha0]; decide) hv (show yPl a 1 = true from r_a2 (i := 1) ha2 (by decide)) (show yPl a 2 = true from r_a2 (i := 2) ha2 (by decide))) (vx_cwSW 5 hts gL_isBook_L_isPossible rfl rfl rfl (by decide +kernel) ⟨Nat.le_of_ble_eq_true rfl, Nat.le_of_ble_eq_true rfl⟩) (hP.sub (ws' := [cT hT hB hV a, cB hB hG tr, cA cI hG 1120 pg]) [0, 1, 2] rfl) hK hN rfl hl.1 rfl (Nat.le_of_ble_eq_true rfl) dL_isBook_493 ⟨Nat.le_of_ble_eq_true rfl, Nat.le_of_ble_eq_true rfl⟩ ?_
                              refine lv_if_ne (tgt := 563) hx hb dL_isBook_496 (by decide) (fun c25 => ?_) (fun c25 => ?_)
                              · refine lv_iconst (v := 0) hx hb dL_isBook_563 (by decide) ?_
                                exact mg_zret (0, b1) hx hb hr hlocks hS (Nat.le_of_ble_eq_true rfl) (Nat.le_of_ble_eq_true rfl) (Or.inl ⟨rfl, rfl⟩) rfl hP (by have h9 := hS.1; dsimp only; omega) dL_isBook_564
                              · refine lv_aload_n hx hb dL_isBook_499 rfl (lv_at hl 0 rfl) ?_
                                refine lv_iload hx hb dL_isBook_500 (lv_at hl 5 rfl) ?_
                                refine lv_iconst (v := (-1)) hx hb dL_isBook_502 (by decide) ?_
                                refine lv_aload_n hx hb dL_isBook_503 rfl (lv_at hl 2 rfl) ?_
                                refine lv_iconst (v := 3) hx hb dL_isBook_504 (by decide) ?_
                                refine k_iald (D := D) (j := 3) (v := 1) hx hb hK hP 3 0 rfl rfl (by decide) (by decide) (Nat.le_of_ble_eq_true rfl) hg3 dL_isBook_505 ?_
                                refine lv_aload_n hx hb dL_isBook_506 rfl (lv_at hl 2 rfl) ?_
                                refine lv_iconst (v := 4) hx hb dL_isBook_507 (by decide) ?_
                                refine k_iald (D := D) (j := 4) (v := 2) hx hb hK hP 3 0 rfl rfl (by decide) (by decide) (Nat.le_of_ble_eq_true rfl) hg4 dL_isBook_508 ?_
                                refine rd_SW (As := [.ref hT, .int vw, .int (-1), .int 1, .int 2]) (rest := []) ⟨hx, hb, hml, hown, hts⟩ (c_L_isPossible l D cI cZ cJ hT hB hV a hG tr pg vw (-1) 1 2 K hK9 hgz hz (by rw [ha0]; decide) hv (show yPl a 1 = true from r_a2 (i := 1) ha2 (by decide)) (show yPl a 2 = true from r_a2 (i := 2) ha2 (by decide))) (vx_cwSW 5 hts gL_isBook_L_isPossible rfl rfl rfl (by decide +kernel) ⟨Nat.le_of_ble_eq_true rfl, Nat.le_of_ble_eq_true rfl⟩) (hP.sub (ws' := [cT hT hB hV a, cB hB hG tr, cA cI hG 1120 pg]) [0, 1, 2] rfl) hK hN rfl hl.1 rfl (Nat.le_of_ble_eq_true rfl) dL_isBook_509 ⟨Nat.le_of_ble_eq_true rfl, Nat.le_of_ble_eq_true rfl⟩ ?_
                                refine lv_if_ne (tgt := 563) hx hb dL_isBook_512 (by decide) (fun c26 => ?_) (fun c26 => ?_)
                                · refine lv_iconst (v := 0) hx hb dL_isBook_563 (by decide) ?_
                                  exact mg_zret (0, b1) hx hb hr hlocks hS (Nat.le_of_ble_eq_true rfl) (Nat.le_of_ble_eq_true rfl) (Or.inl ⟨rfl, rfl⟩) rfl hP (by have h9 := hS.1; dsimp only; omega) dL_isBook_564
                                · refine lv_aload_n hx hb dL_isBook_515 rfl (lv_at hl 0 rfl) ?_
                                  refine lv_iload hx hb dL_isBook_516 (lv_at hl 5 rfl) ?_
                                  refine lv_iconst (v := 0) hx hb dL_isBook_518 (by decide) ?_
                                  refine lv_aload_n hx hb dL_isBook_519 rfl (lv_at hl 2 rfl) ?_
                                  refine lv_iconst (v := 1) hx hb dL_isBook_520 (by decide) ?_
                                  refine k_iald (D := D) (j := 1) (v := 4) hx hb hK hP 3 0 rfl rfl (by decide) (by decide) (Nat.le_of_ble_eq_true rfl) hg1 dL_isBook_521 ?_
                                  refine lv_iconst (v := 0) hx hb dL_isBook_522 (by decide) ?_
                                  refine mx_SW (As := [.ref hT, .int vw, .int 0, .int 4, .int 0]) (rest := []) ⟨hx, hb, hml, hown, hts⟩ (x_L_isPossible_2 l D cI cZ cJ _ hst hT hB hV a vw 0 4 0 (ki2 ha0 ha2 hv)) (vx_cwSW 5 hts gL_isBook_L_isPossible rfl rfl rfl (by decide +kernel) ⟨Nat.le_of_ble_eq_true rfl, Nat.le_of_ble_eq_true rfl⟩) hP hD hK hN hY hXn hS hA hZ rfl hl.1 rfl (Nat.le_of_ble_eq_true rfl) dL_isBook_523 ⟨Nat.le_of_ble_eq_true rfl, Nat.le_of_ble_eq_true rfl⟩ [0] [1, 2, 3, 4, 5] rfl rfl 6 rfl (by decide) (by decide) (fun H locs hP hD hS hG27 => ?_)
                                  refine lv_bipush (v := (-72)) hx hb dL_isBook_526 (by decide) ?_
                                  refine lv_icmp_ne (tgt := 563) hx hb dL_isBook_528 (by decide) (fun c28 => ?_) (fun c28 => ?_)
                                  · exact absurd c28 (by decide)
                                  · refine lv_aload_n hx hb dL_isBook_531 rfl (lv_at hl 0 rfl) ?_
                                    refine lv_iload hx hb dL_isBook_532 (lv_at hl 5 rfl) ?_
                                    refine lv_iconst (v := 0) hx hb dL_isBook_534 (by decide) ?_
                                    refine lv_iconst (v := 4) hx hb dL_isBook_535 (by decide) ?_
                                    refine mx_SW (As := [.ref hT, .int vw, .int 0, .int 4]) (rest := []) ⟨hx, hb, hml, hown, hts⟩ (x_L_worldsWith_3 l D cI cZ cJ _ hst hT hB hV a vw 0 4 (kx3 ha0 ha2 hv)) (vx_cwSW 4 hts gL_isBook_L_worldsWith rfl rfl rfl (by decide +kernel) ⟨Nat.le_of_ble_eq_true rfl, Nat.le_of_ble_eq_true rfl⟩) hP hD hK hN hY hXn hS hA hZ rfl hl.1 rfl (Nat.le_of_ble_eq_true rfl) dL_isBook_536 ⟨Nat.le_of_ble_eq_true rfl, Nat.le_of_ble_eq_true rfl⟩ [0] [1, 2, 3, 4, 5] rfl rfl 6 rfl (by decide) (by decide) (fun H locs hP hD hS hG29 => ?_)
                                    refine lv_bipush (v := (-73)) hx hb dL_isBook_539 (by decide) ?_
                                    refine lv_icmp_ne (tgt := 563) hx hb dL_isBook_541 (by decide) (fun c30 => ?_) (fun c30 => ?_)
                                    · exact absurd c30 (by decide)
                                    · refine lv_aload_n hx hb dL_isBook_544 rfl (lv_at hl 0 rfl) ?_
                                      refine lv_iload hx hb dL_isBook_545 (lv_at hl 5 rfl) ?_
                                      refine lv_aload_n hx hb dL_isBook_547 rfl (lv_at hl 2 rfl) ?_
                                      refine lv_iconst (v := 1) hx hb dL_isBook_548 (by decide) ?_
                                      refine k_iald (D := D) (j := 1) (v := 4) hx hb hK hP 3 0 rfl rfl (by decide) (by decide) (Nat.le_of_ble_eq_true rfl) hg1 dL_isBook_549 ?_
                                      refine lv_iconst (v := 4) hx hb dL_isBook_550 (by decide) ?_
                                      refine mx_SW (As := [.ref hT, .int vw, .int 4, .int 4]) (rest := []) ⟨hx, hb, hml, hown, hts⟩ (x_L_worldsWith_2 l D cI cZ cJ _ hst hT hB hV a vw 4 4 (kx2 ha0 ha2 hv)) (vx_cwSW 4 hts gL_isBook_L_worldsWith rfl rfl rfl (by decide +kernel) ⟨Nat.le_of_ble_eq_true rfl, Nat.le_of_ble_eq_true rfl⟩) hP hD hK hN hY hXn hS hA hZ rfl hl.1 rfl (Nat.le_of_ble_eq_true rfl) dL_isBook_551 ⟨Nat.le_of_ble_eq_true rfl, Nat.le_of_ble_eq_true rfl⟩ [0] [1, 2, 3, 4, 5] rfl rfl 6 rfl (by decide) (by decide) (fun H locs hP hD hS hG31 => ?_)
                                      refine lv_bipush (v := (-72)) hx hb dL_isBook_554 (by decide) ?_
                                      refine lv_icmp_ne (tgt := 563) hx hb dL_isBook_556 (by decide) (fun c32 => ?_) (fun c32 => ?_)
                                      · exact absurd c32 (by decide)
                                      · refine lv_iconst (v := 1) hx hb dL_isBook_559 (by decide) ?_
                                        refine lv_goto (tgt := 564) hx hb dL_isBook_560 (by decide) ?_
                                        exact mg_zret (3, b1) hx hb hr hlocks hS (Nat.le_of_ble_eq_true rfl) (Nat.le_of_ble_eq_true rfl) (Or.inr ⟨rfl, rfl⟩) rfl hP (by have h9 := hS.1; dsimp only; omega) dL_isBook_564
                        · refine lv_aload_n hx hb dL_isBook_432 rfl (lv_at hl 5 rfl) ?_
                          refine lv_aload_n hx hb dL_isBook_433 rfl (lv_at hl 6 rfl) ?_
                          refine lv_iload hx hb dL_isBook_434 (lv_at hl 8 rfl) ?_
                          refine lv_iload hx hb dL_isBook_436 (lv_at hl 2 rfl) ?_
                          refine lv_iload hx hb dL_isBook_438 (lv_at hl 1 rfl) ?_
                          refine lv_iload hx hb dL_isBook_440 (lv_at hl 0 rfl) ?_
                          refine rp_S (As := [.ref kg, .ref kf, .int vw, .int 1, .int 1, .int 2]) (rest := [.int (bI (decide ((1 : Int32) &&& (-256) = 0) && (yHs pg (yWo 1 1 2) K && yAgr (yWo 1 1 2) tr (yKn a vw))))]) ⟨hx, hb, hml, hown, hts⟩ (c_L_agrees l D cI cZ cJ kg kf g f vw 1 1 2 hg1 hg8) (va_cwS 6 hts gL_isBook_L_agrees rfl rfl rfl (by decide +kernel) ⟨Nat.le_of_ble_eq_true rfl, Nat.le_of_ble_eq_true rfl⟩) (hP.sub (ws' := [cA cI kg 13 g, cA cI kf 60 f]) [3, 4] rfl) hK hN rfl hl.1 rfl (Nat.le_of_ble_eq_true rfl) dL_isBook_442 ⟨Nat.le_of_ble_eq_true rfl, Nat.le_of_ble_eq_true rfl⟩ (fun n33 _ => ?_)
                          refine lv_if_eq (tgt := 452) hx hb dL_isBook_445 (by decide) (fun c34 => ?_) (fun c34 => ?_)
                          · refine lv_iconst (v := 0) hx hb dL_isBook_452 (by decide) ?_
                            exact J19 (0, (bI (decide ((1 : Int32) &&& (-256) = 0) && (yHs pg (yWo 1 1 2) K && yAgr (yWo 1 1 2) tr (yKn a vw))))) trivial ls (lv_sub hl [3, 4, 5, 6, 7, 8, 9, 10, 11, 2, 1, 0] rfl)
                          · refine lv_iconst (v := 1) hx hb dL_isBook_448 (by decide) ?_
                            refine lv_goto (tgt := 453) hx hb dL_isBook_449 (by decide) ?_
                            exact J19 (1, (bI (decide ((1 : Int32) &&& (-256) = 0) && (yHs pg (yWo 1 1 2) K && yAgr (yWo 1 1 2) tr (yKn a vw))))) trivial ls (lv_sub hl [3, 4, 5, 6, 7, 8, 9, 10, 11, 2, 1, 0] rfl)
    · refine lv_iload hx hb dL_isBook_250 (lv_at hl 9 rfl) ?_
      refine lv_aload_n hx hb dL_isBook_252 rfl (lv_at hl 6 rfl) ?_
      refine lv_iconst (v := 3) hx hb dL_isBook_253 (by decide) ?_
      refine k_iald (D := D) (j := 3) (v := 1) hx hb hK hP 3 0 rfl rfl (by decide) (by decide) (Nat.le_of_ble_eq_true rfl) hg3 dL_isBook_254 ?_
      refine lv_icmp_ne (tgt := 269) hx hb dL_isBook_255 (by decide) (fun c35 => ?_) (fun c35 => ?_)
      · exact J8 () trivial ls (lv_sub hl [4, 5, 6, 7, 8, 9, 3, 2, 1, 0] rfl)
      · refine lv_aload_n hx hb dL_isBook_258 rfl (lv_at hl 4 rfl) ?_
        refine rd_V (b := hT) (As := []) (rest := []) ⟨hx, hb, hml, hown, hts⟩ (c_X1_bestLook l D cI cZ cJ hT hB hV a hG tr pg K 4 hK9 hgz hz hn9 (by decide) (by rw [ha0]; decide)) (cwV 0 hts gL_isBook_X1_bestLook rfl rfl rfl (by decide +kernel) ⟨Nat.le_of_ble_eq_true rfl, Nat.le_of_ble_eq_true rfl⟩) (hP.sub (ws' := [cT hT hB hV a, cB hB hG tr, cA cI hG 1120 pg]) [0, 1, 2] rfl) hK hN (va_recv hK hP (ci := 1) (q0 := 0) rfl rfl) rfl hl.1 rfl (Nat.le_of_ble_eq_true rfl) dL_isBook_259 ⟨Nat.le_of_ble_eq_true rfl, Nat.le_of_ble_eq_true rfl⟩ ?_
        refine lv_iload hx hb dL_isBook_262 (lv_at hl 1 rfl) ?_
        refine lv_icmp_eq (tgt := 269) hx hb dL_isBook_264 (by decide) (fun c36 => ?_) (fun c36 => ?_)
        · exact J8 () trivial ls (lv_sub hl [4, 5, 6, 7, 8, 9, 3, 2, 1, 0] rfl)
        · refine lv_iconst (v := 0) hx hb dL_isBook_267 (by decide) ?_
          exact mg_zret (0, b1) hx hb hr hlocks hS (Nat.le_of_ble_eq_true rfl) (Nat.le_of_ble_eq_true rfl) (Or.inl ⟨rfl, rfl⟩) rfl hP (by have h9 := hS.1; dsimp only; omega) dL_isBook_268
  · have hlti5 : i5 < 4 := k_lt (N := 4) (by decide) (by decide) hii5 c7
    refine lv_iconst (v := 0) hx hb dL_isBook_35 (by decide) ?_
    refine lv_istore (lv' := [(10, .int 0), (9, .int (nI i5)), (8, .int u4), (7, .int u3), (6, .int 15), (0, .ref hT), (1, .int y), (2, .ref kg), (3, .ref kf), (4, .ref kb), (5, .int vw)]) hx hb dL_isBook_36 hl (by decide) rfl (fun ls hl => ?_)
    refine loop_RX (α := Unit) (nL := 12) (h := 38) 4 (fun i37 x38 => [(10, .int (nI i37)), (9, .int (nI i5)), (8, .int u4), (7, .int u3), (6, .int 15), (0, .ref hT), (1, .int y), (2, .ref kg), (3, .ref kf), (4, .ref kb), (5, .int vw)]) (fun _ x38 => True) (fun i37 x38 hii37 hIi37 ihi37 ls hl => ?_) 0 () (Nat.zero_le _) trivial ls (lv_sub hl [0, 1, 2, 3, 4, 5, 6, 7, 8, 9, 10] rfl)
    have hl : lv_has ls 12 [(10, .int (nI i37)), (9, .int (nI i5)), (8, .int u4), (7, .int u3), (6, .int 15), (0, .ref hT), (1, .int y), (2, .ref kg), (3, .ref kf), (4, .ref kb), (5, .int vw)] := hl
    refine lv_iload hx hb dL_isBook_38 (lv_at hl 0 rfl) ?_
    refine lv_iconst (v := 4) hx hb dL_isBook_40 (by decide) ?_
    refine lv_icmp_ge (tgt := 79) hx hb dL_isBook_41 (by decide) (fun c39 => ?_) (fun c39 => ?_)
    · refine lv_aload_n hx hb dL_isBook_79 rfl (lv_at hl 7 rfl) ?_
      refine lv_iconst (v := 5) hx hb dL_isBook_80 (by decide) ?_
      refine k_iald (D := D) (j := 5) (v := (g 5)) hx hb hK hP 3 0 rfl rfl (by decide) (by decide) (Nat.le_of_ble_eq_true rfl) rfl dL_isBook_81 ?_
      refine lv_iload hx hb dL_isBook_82 (lv_at hl 1 rfl) ?_
      refine rd_S (As := [.int (g 5), .int (nI i5)]) (rest := []) ⟨hx, hb, hml, hown, hts⟩ (c_L_has l D cI cZ cJ (g 5) (nI i5)) (va_cwS 2 hts gL_isBook_L_has rfl rfl rfl (by decide +kernel) ⟨Nat.le_of_ble_eq_true rfl, Nat.le_of_ble_eq_true rfl⟩) (hP.sub (ws' := []) [] rfl) hK hN rfl hl.1 rfl (Nat.le_of_ble_eq_true rfl) dL_isBook_84 ⟨Nat.le_of_ble_eq_true rfl, Nat.le_of_ble_eq_true rfl⟩ ?_
      refine lv_if_eq (tgt := 244) hx hb dL_isBook_87 (by decide) (fun c40 => ?_) (fun c40 => ?_)
      · refine lv_iinc (v := (nI (i5 + 1))) (lv' := [(9, .int (nI (i5 + 1))), (10, .int (nI i37)), (8, .int u4), (7, .int u3), (6, .int 15), (0, .ref hT), (1, .int y), (2, .ref kg), (3, .ref kf), (4, .ref kb), (5, .int vw)]) hx hb dL_isBook_244 hl (k := 1) rfl (nI_1 i5) (by decide) rfl (fun ls hl => ?_)
        refine lv_goto (tgt := 27) hx hb dL_isBook_247 (by decide) ?_
        exact ihi5 (u3, u4) hlti5 ⟨hIi5.1, hIi5.2⟩ ls (lv_sub hl [0, 2, 3, 4, 5, 6, 7, 8, 9, 10] rfl)
      · refine lv_iload hx hb dL_isBook_90 (lv_at hl 1 rfl) ?_
        refine lv_iload hx hb dL_isBook_92 (lv_at hl 10 rfl) ?_
        refine lv_icmp_ne (tgt := 100) hx hb dL_isBook_94 (by decide) (fun c41 => ?_) (fun c41 => ?_)
        · refine k_join (α := Int32) (nL := 12) (h := 128) (fun x43 => [(0, .ref hT), (1, .int y), (2, .ref kg), (3, .ref kf), (4, .ref kb), (5, .int vw), (6, .int 15), (7, .int x43), (8, .int u4), (9, .int (nI i5)), (10, .int (nI i37))]) (fun _ => []) (fun x43 => BOK x43) ?_ (fun J42 => ?_)
          · intro z44 hvJ42 ls hl
            have hl : lv_has ls 12 [(0, .ref hT), (1, .int y), (2, .ref kg), (3, .ref kf), (4, .ref kb), (5, .int vw), (6, .int 15), (7, .int z44), (8, .int u4), (9, .int (nI i5)), (10, .int (nI i37))] := hl
            have hvJ42 : BOK z44 := hvJ42
            refine k_join (α := Int32) (nL := 12) (h := 178) (fun x46 => [(0, .ref hT), (1, .int y), (2, .ref kg), (3, .ref kf), (4, .ref kb), (5, .int vw), (6, .int 15), (7, .int z44), (8, .int u4), (9, .int (nI i5)), (10, .int (nI i37))]) (fun x46 => [.int x46]) (fun _ => True) ?_ (fun J45 => ?_)
            · intro t47 hvJ45 ls hl
              have hl : lv_has ls 12 [(0, .ref hT), (1, .int y), (2, .ref kg), (3, .ref kf), (4, .ref kb), (5, .int vw), (6, .int 15), (7, .int z44), (8, .int u4), (9, .int (nI i5)), (10, .int (nI i37))] := hl
              refine lv_istore (lv' := [(10, .int t47), (0, .ref hT), (1, .int y), (2, .ref kg), (3, .ref kf), (4, .ref kb), (5, .int vw), (6, .int 15), (7, .int z44), (8, .int u4), (9, .int (nI i5))]) hx hb dL_isBook_178 hl (by decide) rfl (fun ls hl => ?_)
              refine lv_iload hx hb dL_isBook_180 (lv_at hl 9 rfl) ?_
              refine lv_if_lt (tgt := 240) hx hb dL_isBook_182 (by decide) (fun c48 => ?_) (fun c48 => ?_)
              · refine lv_iload hx hb dL_isBook_240 (lv_at hl 10 rfl) ?_
                refine lv_istore (lv' := [(8, .int (nI i5)), (10, .int t47), (0, .ref hT), (1, .int y), (2, .ref kg), (3, .ref kf), (4, .ref kb), (5, .int vw), (6, .int 15), (7, .int z44), (9, .int (nI i5))]) hx hb dL_isBook_242 hl (by decide) rfl (fun ls hl => ?_)
                refine lv_iinc (v := (nI (i5 + 1))) (lv' := [(9, .int (nI (i5 + 1))), (8, .int (nI i5)), (10, .int t47), (0, .ref hT), (1, .int y), (2, .ref kg), (3, .ref kf), (4, .ref kb), (5, .int vw), (6, .int 15), (7, .int z44)]) hx hb dL_isBook_244 hl (k := 10) rfl (nI_1 i5) (by decide) rfl (fun ls hl => ?_)
                refine lv_goto (tgt := 27) hx hb dL_isBook_247 (by decide) ?_
                exact ihi5 (z44, (nI i5)) hlti5 ⟨hvJ42, (bok_n (by omega))⟩ ls (lv_sub hl [0, 1, 10, 9, 3, 4, 5, 6, 7, 8] rfl)
              · obtain ⟨j49, hj49, ej49⟩ := bok_ge hIi5.2 c48
                subst ej49
                refine lv_iload hx hb dL_isBook_185 (lv_at hl 0 rfl) ?_
                refine lv_iconst (v := 2) hx hb dL_isBook_187 (by decide) ?_
                refine lv_aload hx hb dL_isBook_188 (lv_at hl 5 rfl) ?_
                refine lv_bipush (v := 16) hx hb dL_isBook_190 (by decide) ?_
                refine lv_iload hx hb dL_isBook_192 (lv_at hl 9 rfl) ?_
                refine lv_iadd hx hb dL_isBook_194 ?_
                refine k_top (nI (16 + j49)) (ixB (by omega)) ?_
                refine k_iald (D := D) (j := (16 + j49)) (v := (b1 (16 + j49))) hx hb hK hP 5 0 rfl rfl rfl (by omega) (Nat.le_of_ble_eq_true rfl) rfl dL_isBook_195 ?_
                refine lv_imul hx hb dL_isBook_196 ?_
                refine lv_aload hx hb dL_isBook_197 (lv_at hl 5 rfl) ?_
                refine lv_iconst (v := 0) hx hb dL_isBook_199 (by decide) ?_
                refine k_iald (D := D) (j := 0) (v := (b1 0)) hx hb hK hP 5 0 rfl rfl (by decide) (by decide) (Nat.le_of_ble_eq_true rfl) rfl dL_isBook_200 ?_
                refine lv_icmp_le (tgt := 222) hx hb dL_isBook_201 (by decide) (fun c50 => ?_) (fun c50 => ?_)
                · refine lv_aload hx hb dL_isBook_222 (lv_at hl 5 rfl) ?_
                  refine lv_iconst (v := 0) hx hb dL_isBook_224 (by decide) ?_
                  refine k_iald (D := D) (j := 0) (v := (b1 0)) hx hb hK hP 5 0 rfl rfl (by decide) (by decide) (Nat.le_of_ble_eq_true rfl) rfl dL_isBook_225 ?_
                  refine lv_iconst (v := 2) hx hb dL_isBook_226 (by decide) ?_
                  refine lv_aload hx hb dL_isBook_227 (lv_at hl 5 rfl) ?_
                  refine lv_bipush (v := 16) hx hb dL_isBook_229 (by decide) ?_
                  refine lv_iload hx hb dL_isBook_231 (lv_at hl 9 rfl) ?_
                  refine lv_iadd hx hb dL_isBook_233 ?_
                  refine k_top (nI (16 + j49)) (ixB (by omega)) ?_
                  refine k_iald (D := D) (j := (16 + j49)) (v := (b1 (16 + j49))) hx hb hK hP 5 0 rfl rfl rfl (by omega) (Nat.le_of_ble_eq_true rfl) rfl dL_isBook_234 ?_
                  refine lv_imul hx hb dL_isBook_235 ?_
                  refine lv_isub hx hb dL_isBook_236 ?_
                  refine lv_icmp_ge (tgt := 244) hx hb dL_isBook_237 (by decide) (fun c51 => ?_) (fun c51 => ?_)
                  · refine lv_iinc (v := (nI (i5 + 1))) (lv' := [(9, .int (nI (i5 + 1))), (10, .int t47), (0, .ref hT), (1, .int y), (2, .ref kg), (3, .ref kf), (4, .ref kb), (5, .int vw), (6, .int 15), (7, .int z44), (8, .int (nI j49))]) hx hb dL_isBook_244 hl (k := 10) rfl (nI_1 i5) (by decide) rfl (fun ls hl => ?_)
                    refine lv_goto (tgt := 27) hx hb dL_isBook_247 (by decide) ?_
                    exact ihi5 (z44, (nI j49)) hlti5 ⟨hvJ42, (bok_n (by omega))⟩ ls (lv_sub hl [0, 10, 9, 8, 2, 3, 4, 5, 6, 7] rfl)
                  · refine lv_iload hx hb dL_isBook_240 (lv_at hl 10 rfl) ?_
                    refine lv_istore (lv' := [(8, .int (nI i5)), (10, .int t47), (0, .ref hT), (1, .int y), (2, .ref kg), (3, .ref kf), (4, .ref kb), (5, .int vw), (6, .int 15), (7, .int z44), (9, .int (nI i5))]) hx hb dL_isBook_242 hl (by decide) rfl (fun ls hl => ?_)
                    refine lv_iinc (v := (nI (i5 + 1))) (lv' := [(9, .int (nI (i5 + 1))), (8, .int (nI i5)), (10, .int t47), (0, .ref hT), (1, .int y), (2, .ref kg), (3, .ref kf), (4, .ref kb), (5, .int vw), (6, .int 15), (7, .int z44)]) hx hb dL_isBook_244 hl (k := 10) rfl (nI_1 i5) (by decide) rfl (fun ls hl => ?_)
                    refine lv_goto (tgt := 27) hx hb dL_isBook_247 (by decide) ?_
                    exact ihi5 (z44, (nI i5)) hlti5 ⟨hvJ42, (bok_n (by omega))⟩ ls (lv_sub hl [0, 1, 10, 9, 3, 4, 5, 6, 7, 8] rfl)
                · refine lv_iconst (v := 2) hx hb dL_isBook_204 (by decide) ?_
                  refine lv_aload hx hb dL_isBook_205 (lv_at hl 5 rfl) ?_
                  refine lv_bipush (v := 16) hx hb dL_isBook_207 (by decide) ?_
                  refine lv_iload hx hb dL_isBook_209 (lv_at hl 9 rfl) ?_
                  refine lv_iadd hx hb dL_isBook_211 ?_
                  refine k_top (nI (16 + j49)) (ixB (by omega)) ?_
                  refine k_iald (D := D) (j := (16 + j49)) (v := (b1 (16 + j49))) hx hb hK hP 5 0 rfl rfl rfl (by omega) (Nat.le_of_ble_eq_true rfl) rfl dL_isBook_212 ?_
                  refine lv_imul hx hb dL_isBook_213 ?_
                  refine lv_aload hx hb dL_isBook_214 (lv_at hl 5 rfl) ?_
                  refine lv_iconst (v := 0) hx hb dL_isBook_216 (by decide) ?_
                  refine k_iald (D := D) (j := 0) (v := (b1 0)) hx hb hK hP 5 0 rfl rfl (by decide) (by decide) (Nat.le_of_ble_eq_true rfl) rfl dL_isBook_217 ?_
                  refine lv_isub hx hb dL_isBook_218 ?_
                  refine lv_goto (tgt := 237) hx hb dL_isBook_219 (by decide) ?_
                  refine lv_icmp_ge (tgt := 244) hx hb dL_isBook_237 (by decide) (fun c52 => ?_) (fun c52 => ?_)
                  · refine lv_iinc (v := (nI (i5 + 1))) (lv' := [(9, .int (nI (i5 + 1))), (10, .int t47), (0, .ref hT), (1, .int y), (2, .ref kg), (3, .ref kf), (4, .ref kb), (5, .int vw), (6, .int 15), (7, .int z44), (8, .int (nI j49))]) hx hb dL_isBook_244 hl (k := 10) rfl (nI_1 i5) (by decide) rfl (fun ls hl => ?_)
                    refine lv_goto (tgt := 27) hx hb dL_isBook_247 (by decide) ?_
                    exact ihi5 (z44, (nI j49)) hlti5 ⟨hvJ42, (bok_n (by omega))⟩ ls (lv_sub hl [0, 10, 9, 8, 2, 3, 4, 5, 6, 7] rfl)
                  · refine lv_iload hx hb dL_isBook_240 (lv_at hl 10 rfl) ?_
                    refine lv_istore (lv' := [(8, .int (nI i5)), (10, .int t47), (0, .ref hT), (1, .int y), (2, .ref kg), (3, .ref kf), (4, .ref kb), (5, .int vw), (6, .int 15), (7, .int z44), (9, .int (nI i5))]) hx hb dL_isBook_242 hl (by decide) rfl (fun ls hl => ?_)
                    refine lv_iinc (v := (nI (i5 + 1))) (lv' := [(9, .int (nI (i5 + 1))), (8, .int (nI i5)), (10, .int t47), (0, .ref hT), (1, .int y), (2, .ref kg), (3, .ref kf), (4, .ref kb), (5, .int vw), (6, .int 15), (7, .int z44)]) hx hb dL_isBook_244 hl (k := 10) rfl (nI_1 i5) (by decide) rfl (fun ls hl => ?_)
                    refine lv_goto (tgt := 27) hx hb dL_isBook_247 (by decide) ?_
                    exact ihi5 (z44, (nI i5)) hlti5 ⟨hvJ42, (bok_n (by omega))⟩ ls (lv_sub hl [0, 1, 10, 9, 3, 4, 5, 6, 7, 8] rfl)
            · refine lv_iconst (v := 2) hx hb dL_isBook_128 (by decide) ?_
              refine lv_aload hx hb dL_isBook_129 (lv_at hl 4 rfl) ?_
              refine lv_bipush (v := 16) hx hb dL_isBook_131 (by decide) ?_
              refine lv_iload hx hb dL_isBook_133 (lv_at hl 9 rfl) ?_
              refine lv_iadd hx hb dL_isBook_135 ?_
              refine k_top (nI (16 + i5)) (ixB (by omega)) ?_
              refine k_iald (D := D) (j := (16 + i5)) (v := (b1 (16 + i5))) hx hb hK hP 5 0 rfl rfl rfl (by omega) (Nat.le_of_ble_eq_true rfl) rfl dL_isBook_136 ?_
              refine lv_imul hx hb dL_isBook_137 ?_
              refine lv_aload hx hb dL_isBook_138 (lv_at hl 4 rfl) ?_
              refine lv_iconst (v := 0) hx hb dL_isBook_140 (by decide) ?_
              refine k_iald (D := D) (j := 0) (v := (b1 0)) hx hb hK hP 5 0 rfl rfl (by decide) (by decide) (Nat.le_of_ble_eq_true rfl) rfl dL_isBook_141 ?_
              refine lv_icmp_le (tgt := 163) hx hb dL_isBook_142 (by decide) (fun c53 => ?_) (fun c53 => ?_)
              · refine lv_aload hx hb dL_isBook_163 (lv_at hl 4 rfl) ?_
                refine lv_iconst (v := 0) hx hb dL_isBook_165 (by decide) ?_
                refine k_iald (D := D) (j := 0) (v := (b1 0)) hx hb hK hP 5 0 rfl rfl (by decide) (by decide) (Nat.le_of_ble_eq_true rfl) rfl dL_isBook_166 ?_
                refine lv_iconst (v := 2) hx hb dL_isBook_167 (by decide) ?_
                refine lv_aload hx hb dL_isBook_168 (lv_at hl 4 rfl) ?_
                refine lv_bipush (v := 16) hx hb dL_isBook_170 (by decide) ?_
                refine lv_iload hx hb dL_isBook_172 (lv_at hl 9 rfl) ?_
                refine lv_iadd hx hb dL_isBook_174 ?_
                refine k_top (nI (16 + i5)) (ixB (by omega)) ?_
                refine k_iald (D := D) (j := (16 + i5)) (v := (b1 (16 + i5))) hx hb hK hP 5 0 rfl rfl rfl (by omega) (Nat.le_of_ble_eq_true rfl) rfl dL_isBook_175 ?_
                refine lv_imul hx hb dL_isBook_176 ?_
                refine lv_isub hx hb dL_isBook_177 ?_
                exact J45 ((b1 0) - (2 * (b1 (16 + i5)))) trivial ls (lv_sub hl [0, 1, 2, 3, 4, 5, 6, 7, 8, 9, 10] rfl)
              · refine lv_iconst (v := 2) hx hb dL_isBook_145 (by decide) ?_
                refine lv_aload hx hb dL_isBook_146 (lv_at hl 4 rfl) ?_
                refine lv_bipush (v := 16) hx hb dL_isBook_148 (by decide) ?_
                refine lv_iload hx hb dL_isBook_150 (lv_at hl 9 rfl) ?_
                refine lv_iadd hx hb dL_isBook_152 ?_
                refine k_top (nI (16 + i5)) (ixB (by omega)) ?_
                refine k_iald (D := D) (j := (16 + i5)) (v := (b1 (16 + i5))) hx hb hK hP 5 0 rfl rfl rfl (by omega) (Nat.le_of_ble_eq_true rfl) rfl dL_isBook_153 ?_
                refine lv_imul hx hb dL_isBook_154 ?_
                refine lv_aload hx hb dL_isBook_155 (lv_at hl 4 rfl) ?_
                refine lv_iconst (v := 0) hx hb dL_isBook_157 (by decide) ?_
                refine k_iald (D := D) (j := 0) (v := (b1 0)) hx hb hK hP 5 0 rfl rfl (by decide) (by decide) (Nat.le_of_ble_eq_true rfl) rfl dL_isBook_158 ?_
                refine lv_isub hx hb dL_isBook_159 ?_
                refine lv_goto (tgt := 178) hx hb dL_isBook_160 (by decide) ?_
                exact J45 ((2 * (b1 (16 + i5))) - (b1 0)) trivial ls (lv_sub hl [0, 1, 2, 3, 4, 5, 6, 7, 8, 9, 10] rfl)
          · refine lv_iload hx hb dL_isBook_100 (lv_at hl 3 rfl) ?_
            refine lv_if_lt (tgt := 124) hx hb dL_isBook_102 (by decide) (fun c54 => ?_) (fun c54 => ?_)
            · refine lv_iload hx hb dL_isBook_124 (lv_at hl 1 rfl) ?_
              refine lv_istore (lv' := [(7, .int (nI i5)), (10, .int (nI i37)), (9, .int (nI i5)), (8, .int u4), (6, .int 15), (0, .ref hT), (1, .int y), (2, .ref kg), (3, .ref kf), (4, .ref kb), (5, .int vw)]) hx hb dL_isBook_126 hl (by decide) rfl (fun ls hl => ?_)
              exact J42 (nI i5) (bok_n (by omega)) ls (lv_sub hl [5, 6, 7, 8, 9, 10, 4, 0, 3, 2, 1] rfl)
            · obtain ⟨j55, hj55, ej55⟩ := bok_ge hIi5.1 c54
              subst ej55
              refine lv_aload hx hb dL_isBook_105 (lv_at hl 9 rfl) ?_
              refine lv_bipush (v := 16) hx hb dL_isBook_107 (by decide) ?_
              refine lv_iload hx hb dL_isBook_109 (lv_at hl 1 rfl) ?_
              refine lv_iadd hx hb dL_isBook_111 ?_
              refine k_top (nI (16 + i5)) (ixB (by omega)) ?_
              refine k_iald (D := D) (j := (16 + i5)) (v := (b1 (16 + i5))) hx hb hK hP 5 0 rfl rfl rfl (by omega) (Nat.le_of_ble_eq_true rfl) rfl dL_isBook_112 ?_
              refine lv_aload hx hb dL_isBook_113 (lv_at hl 9 rfl) ?_
              refine lv_bipush (v := 16) hx hb dL_isBook_115 (by decide) ?_
              refine lv_iload hx hb dL_isBook_117 (lv_at hl 3 rfl) ?_
              refine lv_iadd hx hb dL_isBook_119 ?_
              refine k_top (nI (16 + j55)) (ixB (by omega)) ?_
              refine k_iald (D := D) (j := (16 + j55)) (v := (b1 (16 + j55))) hx hb hK hP 5 0 rfl rfl rfl (by omega) (Nat.le_of_ble_eq_true rfl) rfl dL_isBook_120 ?_
              refine lv_icmp_le (tgt := 128) hx hb dL_isBook_121 (by decide) (fun c56 => ?_) (fun c56 => ?_)
              · exact J42 (nI j55) (bok_n (by omega)) ls (lv_sub hl [5, 6, 7, 8, 9, 10, 4, 3, 2, 1, 0] rfl)
              · refine lv_iload hx hb dL_isBook_124 (lv_at hl 1 rfl) ?_
                refine lv_istore (lv' := [(7, .int (nI i5)), (10, .int (nI i37)), (9, .int (nI i5)), (8, .int u4), (6, .int 15), (0, .ref hT), (1, .int y), (2, .ref kg), (3, .ref kf), (4, .ref kb), (5, .int vw)]) hx hb dL_isBook_126 hl (by decide) rfl (fun ls hl => ?_)
                exact J42 (nI i5) (bok_n (by omega)) ls (lv_sub hl [5, 6, 7, 8, 9, 10, 4, 0, 3, 2, 1] rfl)
        · refine lv_goto (tgt := 244) hx hb dL_isBook_97 (by decide) ?_
          refine lv_iinc (v := (nI (i5 + 1))) (lv' := [(9, .int (nI (i5 + 1))), (10, .int (nI i37)), (8, .int u4), (7, .int u3), (6, .int 15), (0, .ref hT), (1, .int y), (2, .ref kg), (3, .ref kf), (4, .ref kb), (5, .int vw)]) hx hb dL_isBook_244 hl (k := 1) rfl (nI_1 i5) (by decide) rfl (fun ls hl => ?_)
          refine lv_goto (tgt := 27) hx hb dL_isBook_247 (by decide) ?_
          exact ihi5 (u3, u4) hlti5 ⟨hIi5.1, hIi5.2⟩ ls (lv_sub hl [0, 2, 3, 4, 5, 6, 7, 8, 9, 10] rfl)
    · have hlti37 : i37 < 4 := k_lt (N := 4) (by decide) (by decide) hii37 c39
      refine lv_aload_n hx hb dL_isBook_44 rfl (lv_at hl 5 rfl) ?_
      refine lv_iload hx hb dL_isBook_45 (lv_at hl 10 rfl) ?_
      refine lv_iload hx hb dL_isBook_47 (lv_at hl 1 rfl) ?_
      refine lv_iload hx hb dL_isBook_49 (lv_at hl 0 rfl) ?_
      refine rd_SW (As := [.ref hT, .int vw, .int (nI i5), .int (nI i37)]) (rest := []) ⟨hx, hb, hml, hown, hts⟩ (c_L_worldsWith l D cI cZ cJ hT hB hV a hG tr pg vw (nI i5) (nI i37) K hK9 hgz hz (by rw [ha0]; decide) hv (r_a2 ha2 (by omega)) (nI_pos (by omega)) (k3 (by omega))) (vx_cwSW 4 hts gL_isBook_L_worldsWith rfl rfl rfl (by decide +kernel) ⟨Nat.le_of_ble_eq_true rfl, Nat.le_of_ble_eq_true rfl⟩) (hP.sub (ws' := [cT hT hB hV a, cB hB hG tr, cA cI hG 1120 pg]) [0, 1, 2] rfl) hK hN rfl hl.1 rfl (Nat.le_of_ble_eq_true rfl) dL_isBook_51 ⟨Nat.le_of_ble_eq_true rfl, Nat.le_of_ble_eq_true rfl⟩ ?_
      refine lv_aload hx hb dL_isBook_54 (lv_at hl 9 rfl) ?_
      refine lv_bipush (v := 8) hx hb dL_isBook_56 (by decide) ?_
      refine lv_bipush (v := 8) hx hb dL_isBook_58 (by decide) ?_
      refine lv_iload hx hb dL_isBook_60 (lv_at hl 0 rfl) ?_
      refine lv_imul hx hb dL_isBook_62 ?_
      refine lv_iadd hx hb dL_isBook_63 ?_
      refine lv_iload hx hb dL_isBook_64 (lv_at hl 1 rfl) ?_
      refine lv_iadd hx hb dL_isBook_66 ?_
      refine k_top (nI (8 + 8 * i37 + i5)) (ixA (by omega) (by omega)) ?_
      refine k_iald (D := D) (j := (8 + 8 * i37 + i5)) (v := (b1 (8 + 8 * i37 + i5))) hx hb hK hP 5 0 rfl rfl rfl (by omega) (Nat.le_of_ble_eq_true rfl) rfl dL_isBook_67 ?_
      refine lv_icmp_eq (tgt := 73) hx hb dL_isBook_68 (by decide) (fun c57 => ?_) (fun c57 => ?_)
      · refine lv_iinc (v := (nI (i37 + 1))) (lv' := [(10, .int (nI (i37 + 1))), (9, .int (nI i5)), (8, .int u4), (7, .int u3), (6, .int 15), (0, .ref hT), (1, .int y), (2, .ref kg), (3, .ref kf), (4, .ref kb), (5, .int vw)]) hx hb dL_isBook_73 hl (k := 0) rfl (nI_1 i37) (by decide) rfl (fun ls hl => ?_)
        refine lv_goto (tgt := 38) hx hb dL_isBook_76 (by decide) ?_
        exact ihi37 () hlti37 trivial ls (lv_sub hl [0, 1, 2, 3, 4, 5, 6, 7, 8, 9, 10] rfl)
      · refine lv_iconst (v := 0) hx hb dL_isBook_71 (by decide) ?_
        exact mg_zret (0, b1) hx hb hr hlocks hS (Nat.le_of_ble_eq_true rfl) (Nat.le_of_ble_eq_true rfl) (Or.inl ⟨rfl, rfl⟩) rfl hP (by have h9 := hS.1; dsimp only; omega) dL_isBook_72
