set_option maxHeartbeats 4000000 in
set_option maxRecDepth 100000 in
theorem c_L_agrees (l : Launch) (D : va_G) (cI cZ cJ : ClassId) (kg kf : Nat) (g f : Nat → Int32) (vw w se gu : Int32) (hg1 : g 1 = 4) (hg8 : g 8 = 0) : Rp l D cI cZ cJ yL_agrees wsL_agrees 2 44 [.ref kg, .ref kf, .int vw, .int w, .int se, .int gu] [cA cI kg 13 g, cA cI kf 60 f] ((fun _ => True)) := by
  refine rp_of (by decide) rfl (Nat.le_of_ble_eq_true rfl) (fun p e s m below meth c ls hx hb hr hml hts hown hlocks hP hK hN hl => ?_)
  have hl : lv_has ls 7 [(0, .ref kg), (1, .ref kf), (2, .int vw), (3, .int w), (4, .int se), (5, .int gu)] := hl
  refine lv_iload_n hx hb dL_agrees_0 rfl (lv_at hl 3 rfl) ?_
  refine rp_S (As := [.int w]) (rest := []) ⟨hx, hb, hml, hown, hts⟩ (c_L_many l D cI cZ cJ w) (va_cwS 1 hts gL_agrees_L_many rfl rfl rfl (by decide +kernel) ⟨Nat.le_of_ble_eq_true rfl, Nat.le_of_ble_eq_true rfl⟩) (hP.sub (ws' := []) [] rfl) hK hN rfl hl.1 rfl (Nat.le_of_ble_eq_true rfl) dL_agrees_1 ⟨Nat.le_of_ble_eq_true rfl, Nat.le_of_ble_eq_true rfl⟩ (fun n1 _ => ?_)
  refine lv_aload_n hx hb dL_agrees_4 rfl (lv_at hl 0 rfl) ?_
  refine lv_iconst (v := 2) hx hb dL_agrees_5 (by decide) ?_
  refine k_iald (D := D) (j := 2) (v := (g 2)) hx hb hK hP 0 0 rfl rfl (by decide) (by decide) (Nat.le_of_ble_eq_true rfl) rfl dL_agrees_6 ?_
  refine rp_S (As := [.int (g 2)]) (rest := [.int n1]) ⟨hx, hb, hml, hown, hts⟩ (c_L_many l D cI cZ cJ (g 2)) (va_cwS 1 hts gL_agrees_L_many rfl rfl rfl (by decide +kernel) ⟨Nat.le_of_ble_eq_true rfl, Nat.le_of_ble_eq_true rfl⟩) (hP.sub (ws' := []) [] rfl) hK hN rfl hl.1 rfl (Nat.le_of_ble_eq_true rfl) dL_agrees_7 ⟨Nat.le_of_ble_eq_true rfl, Nat.le_of_ble_eq_true rfl⟩ (fun n2 _ => ?_)
  refine lv_icmp_ne (tgt := 38) hx hb dL_agrees_10 (by decide) (fun c3 => ?_) (fun c3 => ?_)
  · refine lv_iconst (v := 0) hx hb dL_agrees_38 (by decide) ?_
    exact rp_zret hx hb hr hlocks trivial rfl dL_agrees_39
  · refine lv_iload hx hb dL_agrees_13 (lv_at hl 4 rfl) ?_
    refine lv_iload hx hb dL_agrees_15 (lv_at hl 5 rfl) ?_
    refine lv_icmp_eq (tgt := 38) hx hb dL_agrees_17 (by decide) (fun c4 => ?_) (fun c4 => ?_)
    · refine lv_iconst (v := 0) hx hb dL_agrees_38 (by decide) ?_
      exact rp_zret hx hb hr hlocks trivial rfl dL_agrees_39
    · refine lv_iload_n hx hb dL_agrees_20 rfl (lv_at hl 3 rfl) ?_
      refine lv_iload hx hb dL_agrees_21 (lv_at hl 4 rfl) ?_
      refine rd_S (As := [.int w, .int se]) (rest := []) ⟨hx, hb, hml, hown, hts⟩ (c_L_has l D cI cZ cJ w se) (va_cwS 2 hts gL_agrees_L_has rfl rfl rfl (by decide +kernel) ⟨Nat.le_of_ble_eq_true rfl, Nat.le_of_ble_eq_true rfl⟩) (hP.sub (ws' := []) [] rfl) hK hN rfl hl.1 rfl (Nat.le_of_ble_eq_true rfl) dL_agrees_23 ⟨Nat.le_of_ble_eq_true rfl, Nat.le_of_ble_eq_true rfl⟩ ?_
      refine lv_if_ne (tgt := 38) hx hb dL_agrees_26 (by decide) (fun c5 => ?_) (fun c5 => ?_)
      · refine lv_iconst (v := 0) hx hb dL_agrees_38 (by decide) ?_
        exact rp_zret hx hb hr hlocks trivial rfl dL_agrees_39
      · refine lv_iload_n hx hb dL_agrees_29 rfl (lv_at hl 3 rfl) ?_
        refine lv_iload hx hb dL_agrees_30 (lv_at hl 5 rfl) ?_
        refine rd_S (As := [.int w, .int gu]) (rest := []) ⟨hx, hb, hml, hown, hts⟩ (c_L_has l D cI cZ cJ w gu) (va_cwS 2 hts gL_agrees_L_has rfl rfl rfl (by decide +kernel) ⟨Nat.le_of_ble_eq_true rfl, Nat.le_of_ble_eq_true rfl⟩) (hP.sub (ws' := []) [] rfl) hK hN rfl hl.1 rfl (Nat.le_of_ble_eq_true rfl) dL_agrees_32 ⟨Nat.le_of_ble_eq_true rfl, Nat.le_of_ble_eq_true rfl⟩ ?_
        refine lv_if_eq (tgt := 40) hx hb dL_agrees_35 (by decide) (fun c6 => ?_) (fun c6 => ?_)
        · refine lv_iconst (v := 0) hx hb dL_agrees_40 (by decide) ?_
          refine lv_istore (lv' := [(6, .int 0), (0, .ref kg), (1, .ref kf), (2, .int vw), (3, .int w), (4, .int se), (5, .int gu)]) hx hb dL_agrees_41 hl (by decide) rfl (fun ls hl => ?_)
          refine lv_iload hx hb dL_agrees_43 (lv_at hl 0 rfl) ?_
          refine lv_aload_n hx hb dL_agrees_45 rfl (lv_at hl 1 rfl) ?_
          refine lv_bipush (v := 8) hx hb dL_agrees_46 (by decide) ?_
          refine k_iald (D := D) (j := 8) (v := 0) hx hb hK hP 0 0 rfl rfl (by decide) (by decide) (Nat.le_of_ble_eq_true rfl) hg8 dL_agrees_48 ?_
          refine lv_icmp_ge (tgt := 89) hx hb dL_agrees_49 (by decide) (fun c7 => ?_) (fun c7 => ?_)
          · refine lv_iconst (v := 0) hx hb dL_agrees_89 (by decide) ?_
            refine lv_istore (lv' := [(6, .int 0), (0, .ref kg), (1, .ref kf), (2, .int vw), (3, .int w), (4, .int se), (5, .int gu)]) hx hb dL_agrees_90 hl (by decide) rfl (fun ls hl => ?_)
            refine loop_RX (α := Unit) (nL := 7) (h := 92) 4 (fun i8 x9 => [(6, .int (nI i8)), (0, .ref kg), (1, .ref kf), (2, .int vw), (3, .int w), (4, .int se), (5, .int gu)]) (fun _ x9 => True) (fun i8 x9 hii8 hIi8 ihi8 ls hl => ?_) 0 () (Nat.zero_le _) trivial ls (lv_sub hl [0, 1, 2, 3, 4, 5, 6] rfl)
            have hl : lv_has ls 7 [(6, .int (nI i8)), (0, .ref kg), (1, .ref kf), (2, .int vw), (3, .int w), (4, .int se), (5, .int gu)] := hl
            refine lv_iload hx hb dL_agrees_92 (lv_at hl 0 rfl) ?_
            refine lv_aload_n hx hb dL_agrees_94 rfl (lv_at hl 1 rfl) ?_
            refine lv_iconst (v := 1) hx hb dL_agrees_95 (by decide) ?_
            refine k_iald (D := D) (j := 1) (v := 4) hx hb hK hP 0 0 rfl rfl (by decide) (by decide) (Nat.le_of_ble_eq_true rfl) hg1 dL_agrees_96 ?_
            refine lv_icmp_ge (tgt := 146) hx hb dL_agrees_97 (by decide) (fun c10 => ?_) (fun c10 => ?_)
            · refine lv_iload_n hx hb dL_agrees_146 rfl (lv_at hl 3 rfl) ?_
              refine lv_if_ge (tgt := 152) hx hb dL_agrees_147 (by decide) (fun c11 => ?_) (fun c11 => ?_)
              · refine lv_iload_n hx hb dL_agrees_152 rfl (lv_at hl 4 rfl) ?_
                refine lv_iload hx hb dL_agrees_153 (lv_at hl 5 rfl) ?_
                refine lv_iload hx hb dL_agrees_155 (lv_at hl 6 rfl) ?_
                refine lv_iload_n hx hb dL_agrees_157 rfl (lv_at hl 3 rfl) ?_
                refine rp_S (As := [.int w, .int se, .int gu, .int vw]) (rest := []) ⟨hx, hb, hml, hown, hts⟩ (c_L_role l D cI cZ cJ w se gu vw) (va_cwS 4 hts gL_agrees_L_role rfl rfl rfl (by decide +kernel) ⟨Nat.le_of_ble_eq_true rfl, Nat.le_of_ble_eq_true rfl⟩) (hP.sub (ws' := []) [] rfl) hK hN rfl hl.1 rfl (Nat.le_of_ble_eq_true rfl) dL_agrees_158 ⟨Nat.le_of_ble_eq_true rfl, Nat.le_of_ble_eq_true rfl⟩ (fun r12 hr12 => ?_)
                obtain ⟨k13, hk13, rfl⟩ := hr12
                refine lv_aload_n hx hb dL_agrees_161 rfl (lv_at hl 1 rfl) ?_
                refine lv_iconst (v := 2) hx hb dL_agrees_162 (by decide) ?_
                refine k_iald (D := D) (j := 2) (v := (g 2)) hx hb hK hP 0 0 rfl rfl (by decide) (by decide) (Nat.le_of_ble_eq_true rfl) rfl dL_agrees_163 ?_
                refine lv_aload_n hx hb dL_agrees_164 rfl (lv_at hl 1 rfl) ?_
                refine lv_iconst (v := 3) hx hb dL_agrees_165 (by decide) ?_
                refine k_iald (D := D) (j := 3) (v := (g 3)) hx hb hK hP 0 0 rfl rfl (by decide) (by decide) (Nat.le_of_ble_eq_true rfl) rfl dL_agrees_166 ?_
                refine lv_aload_n hx hb dL_agrees_167 rfl (lv_at hl 1 rfl) ?_
                refine lv_iconst (v := 4) hx hb dL_agrees_168 (by decide) ?_
                refine k_iald (D := D) (j := 4) (v := (g 4)) hx hb hK hP 0 0 rfl rfl (by decide) (by decide) (Nat.le_of_ble_eq_true rfl) rfl dL_agrees_169 ?_
                refine lv_iload_n hx hb dL_agrees_170 rfl (lv_at hl 3 rfl) ?_
                refine rp_S (As := [.int (g 2), .int (g 3), .int (g 4), .int vw]) (rest := [.int (nI k13)]) ⟨hx, hb, hml, hown, hts⟩ (c_L_role l D cI cZ cJ (g 2) (g 3) (g 4) vw) (va_cwS 4 hts gL_agrees_L_role rfl rfl rfl (by decide +kernel) ⟨Nat.le_of_ble_eq_true rfl, Nat.le_of_ble_eq_true rfl⟩) (hP.sub (ws' := []) [] rfl) hK hN rfl hl.1 rfl (Nat.le_of_ble_eq_true rfl) dL_agrees_171 ⟨Nat.le_of_ble_eq_true rfl, Nat.le_of_ble_eq_true rfl⟩ (fun r14 hr14 => ?_)
                obtain ⟨k15, hk15, rfl⟩ := hr14
                refine lv_icmp_eq (tgt := 179) hx hb dL_agrees_174 (by decide) (fun c16 => ?_) (fun c16 => ?_)
                · refine lv_aload_n hx hb dL_agrees_179 rfl (lv_at hl 1 rfl) ?_
                  refine lv_iconst (v := 2) hx hb dL_agrees_180 (by decide) ?_
                  refine k_iald (D := D) (j := 2) (v := (g 2)) hx hb hK hP 0 0 rfl rfl (by decide) (by decide) (Nat.le_of_ble_eq_true rfl) rfl dL_agrees_181 ?_
                  refine lv_iload_n hx hb dL_agrees_182 rfl (lv_at hl 3 rfl) ?_
                  refine rd_S (As := [.int (g 2), .int vw]) (rest := []) ⟨hx, hb, hml, hown, hts⟩ (c_L_has l D cI cZ cJ (g 2) vw) (va_cwS 2 hts gL_agrees_L_has rfl rfl rfl (by decide +kernel) ⟨Nat.le_of_ble_eq_true rfl, Nat.le_of_ble_eq_true rfl⟩) (hP.sub (ws' := []) [] rfl) hK hN rfl hl.1 rfl (Nat.le_of_ble_eq_true rfl) dL_agrees_183 ⟨Nat.le_of_ble_eq_true rfl, Nat.le_of_ble_eq_true rfl⟩ ?_
                  refine lv_if_eq (tgt := 204) hx hb dL_agrees_186 (by decide) (fun c17 => ?_) (fun c17 => ?_)
                  · refine lv_iload_n hx hb dL_agrees_204 rfl (lv_at hl 3 rfl) ?_
                    refine lv_aload_n hx hb dL_agrees_205 rfl (lv_at hl 1 rfl) ?_
                    refine lv_iconst (v := 3) hx hb dL_agrees_206 (by decide) ?_
                    refine k_iald (D := D) (j := 3) (v := (g 3)) hx hb hK hP 0 0 rfl rfl (by decide) (by decide) (Nat.le_of_ble_eq_true rfl) rfl dL_agrees_207 ?_
                    refine lv_icmp_ne (tgt := 224) hx hb dL_agrees_208 (by decide) (fun c18 => ?_) (fun c18 => ?_)
                    · refine lv_iconst (v := 1) hx hb dL_agrees_224 (by decide) ?_
                      refine lv_goto (tgt := 229) hx hb dL_agrees_225 (by decide) ?_
                      exact rp_zret hx hb hr hlocks trivial rfl dL_agrees_229
                    · refine lv_iload_n hx hb dL_agrees_211 rfl (lv_at hl 4 rfl) ?_
                      refine lv_aload_n hx hb dL_agrees_212 rfl (lv_at hl 1 rfl) ?_
                      refine lv_iconst (v := 2) hx hb dL_agrees_213 (by decide) ?_
                      refine k_iald (D := D) (j := 2) (v := (g 2)) hx hb hK hP 0 0 rfl rfl (by decide) (by decide) (Nat.le_of_ble_eq_true rfl) rfl dL_agrees_214 ?_
                      refine lv_ixor hx hb dL_agrees_215 ?_
                      refine lv_aload_n hx hb dL_agrees_216 rfl (lv_at hl 1 rfl) ?_
                      refine lv_bipush (v := 7) hx hb dL_agrees_217 (by decide) ?_
                      refine k_iald (D := D) (j := 7) (v := (g 7)) hx hb hK hP 0 0 rfl rfl (by decide) (by decide) (Nat.le_of_ble_eq_true rfl) rfl dL_agrees_219 ?_
                      refine lv_iand hx hb dL_agrees_220 ?_
                      refine lv_if_ne (tgt := 228) hx hb dL_agrees_221 (by decide) (fun c19 => ?_) (fun c19 => ?_)
                      · refine lv_iconst (v := 0) hx hb dL_agrees_228 (by decide) ?_
                        exact rp_zret hx hb hr hlocks trivial rfl dL_agrees_229
                      · refine lv_iconst (v := 1) hx hb dL_agrees_224 (by decide) ?_
                        refine lv_goto (tgt := 229) hx hb dL_agrees_225 (by decide) ?_
                        exact rp_zret hx hb hr hlocks trivial rfl dL_agrees_229
                  · refine lv_iload_n hx hb dL_agrees_189 rfl (lv_at hl 4 rfl) ?_
                    refine lv_aload_n hx hb dL_agrees_190 rfl (lv_at hl 1 rfl) ?_
                    refine lv_iconst (v := 2) hx hb dL_agrees_191 (by decide) ?_
                    refine k_iald (D := D) (j := 2) (v := (g 2)) hx hb hK hP 0 0 rfl rfl (by decide) (by decide) (Nat.le_of_ble_eq_true rfl) rfl dL_agrees_192 ?_
                    refine lv_icmp_ne (tgt := 200) hx hb dL_agrees_193 (by decide) (fun c20 => ?_) (fun c20 => ?_)
                    · refine lv_iconst (v := 0) hx hb dL_agrees_200 (by decide) ?_
                      refine lv_goto (tgt := 229) hx hb dL_agrees_201 (by decide) ?_
                      exact rp_zret hx hb hr hlocks trivial rfl dL_agrees_229
                    · refine lv_iconst (v := 1) hx hb dL_agrees_196 (by decide) ?_
                      refine lv_goto (tgt := 229) hx hb dL_agrees_197 (by decide) ?_
                      exact rp_zret hx hb hr hlocks trivial rfl dL_agrees_229
                · refine lv_iconst (v := 0) hx hb dL_agrees_177 (by decide) ?_
                  exact rp_zret hx hb hr hlocks trivial rfl dL_agrees_178
              · refine lv_iconst (v := 1) hx hb dL_agrees_150 (by decide) ?_
                exact rp_zret hx hb hr hlocks trivial rfl dL_agrees_151
            · have hlti8 : i8 < 4 := k_lt (N := 4) (by decide) (by decide) hii8 c10
              refine lv_aload_n hx hb dL_agrees_100 rfl (lv_at hl 1 rfl) ?_
              refine lv_iconst (v := 5) hx hb dL_agrees_101 (by decide) ?_
              refine k_iald (D := D) (j := 5) (v := (g 5)) hx hb hK hP 0 0 rfl rfl (by decide) (by decide) (Nat.le_of_ble_eq_true rfl) rfl dL_agrees_102 ?_
              refine lv_iload hx hb dL_agrees_103 (lv_at hl 0 rfl) ?_
              refine rd_S (As := [.int (g 5), .int (nI i8)]) (rest := []) ⟨hx, hb, hml, hown, hts⟩ (c_L_has l D cI cZ cJ (g 5) (nI i8)) (va_cwS 2 hts gL_agrees_L_has rfl rfl rfl (by decide +kernel) ⟨Nat.le_of_ble_eq_true rfl, Nat.le_of_ble_eq_true rfl⟩) (hP.sub (ws' := []) [] rfl) hK hN rfl hl.1 rfl (Nat.le_of_ble_eq_true rfl) dL_agrees_105 ⟨Nat.le_of_ble_eq_true rfl, Nat.le_of_ble_eq_true rfl⟩ ?_
              refine lv_if_ne (tgt := 140) hx hb dL_agrees_108 (by decide) (fun c21 => ?_) (fun c21 => ?_)
              · refine lv_iinc (v := (nI (i8 + 1))) (lv' := [(6, .int (nI (i8 + 1))), (0, .ref kg), (1, .ref kf), (2, .int vw), (3, .int w), (4, .int se), (5, .int gu)]) hx hb dL_agrees_140 hl (k := 0) rfl (nI_1 i8) (by decide) rfl (fun ls hl => ?_)
                refine lv_goto (tgt := 92) hx hb dL_agrees_143 (by decide) ?_
                exact ihi8 () hlti8 trivial ls (lv_sub hl [0, 1, 2, 3, 4, 5, 6] rfl)
              · refine lv_iload_n hx hb dL_agrees_111 rfl (lv_at hl 4 rfl) ?_
                refine lv_iload hx hb dL_agrees_112 (lv_at hl 5 rfl) ?_
                refine lv_iload hx hb dL_agrees_114 (lv_at hl 6 rfl) ?_
                refine lv_iload hx hb dL_agrees_116 (lv_at hl 0 rfl) ?_
                refine rp_S (As := [.int w, .int se, .int gu, .int (nI i8)]) (rest := []) ⟨hx, hb, hml, hown, hts⟩ (c_L_role l D cI cZ cJ w se gu (nI i8)) (va_cwS 4 hts gL_agrees_L_role rfl rfl rfl (by decide +kernel) ⟨Nat.le_of_ble_eq_true rfl, Nat.le_of_ble_eq_true rfl⟩) (hP.sub (ws' := []) [] rfl) hK hN rfl hl.1 rfl (Nat.le_of_ble_eq_true rfl) dL_agrees_118 ⟨Nat.le_of_ble_eq_true rfl, Nat.le_of_ble_eq_true rfl⟩ (fun r22 hr22 => ?_)
                obtain ⟨k23, hk23, rfl⟩ := hr22
                refine lv_aload_n hx hb dL_agrees_121 rfl (lv_at hl 1 rfl) ?_
                refine lv_iconst (v := 2) hx hb dL_agrees_122 (by decide) ?_
                refine k_iald (D := D) (j := 2) (v := (g 2)) hx hb hK hP 0 0 rfl rfl (by decide) (by decide) (Nat.le_of_ble_eq_true rfl) rfl dL_agrees_123 ?_
                refine lv_aload_n hx hb dL_agrees_124 rfl (lv_at hl 1 rfl) ?_
                refine lv_iconst (v := 3) hx hb dL_agrees_125 (by decide) ?_
                refine k_iald (D := D) (j := 3) (v := (g 3)) hx hb hK hP 0 0 rfl rfl (by decide) (by decide) (Nat.le_of_ble_eq_true rfl) rfl dL_agrees_126 ?_
                refine lv_aload_n hx hb dL_agrees_127 rfl (lv_at hl 1 rfl) ?_
                refine lv_iconst (v := 4) hx hb dL_agrees_128 (by decide) ?_
                refine k_iald (D := D) (j := 4) (v := (g 4)) hx hb hK hP 0 0 rfl rfl (by decide) (by decide) (Nat.le_of_ble_eq_true rfl) rfl dL_agrees_129 ?_
                refine lv_iload hx hb dL_agrees_130 (lv_at hl 0 rfl) ?_
                refine rp_S (As := [.int (g 2), .int (g 3), .int (g 4), .int (nI i8)]) (rest := [.int (nI k23)]) ⟨hx, hb, hml, hown, hts⟩ (c_L_role l D cI cZ cJ (g 2) (g 3) (g 4) (nI i8)) (va_cwS 4 hts gL_agrees_L_role rfl rfl rfl (by decide +kernel) ⟨Nat.le_of_ble_eq_true rfl, Nat.le_of_ble_eq_true rfl⟩) (hP.sub (ws' := []) [] rfl) hK hN rfl hl.1 rfl (Nat.le_of_ble_eq_true rfl) dL_agrees_132 ⟨Nat.le_of_ble_eq_true rfl, Nat.le_of_ble_eq_true rfl⟩ (fun r24 hr24 => ?_)
                obtain ⟨k25, hk25, rfl⟩ := hr24
                refine lv_icmp_eq (tgt := 140) hx hb dL_agrees_135 (by decide) (fun c26 => ?_) (fun c26 => ?_)
                · refine lv_iinc (v := (nI (i8 + 1))) (lv' := [(6, .int (nI (i8 + 1))), (0, .ref kg), (1, .ref kf), (2, .int vw), (3, .int w), (4, .int se), (5, .int gu)]) hx hb dL_agrees_140 hl (k := 0) rfl (nI_1 i8) (by decide) rfl (fun ls hl => ?_)
                  refine lv_goto (tgt := 92) hx hb dL_agrees_143 (by decide) ?_
                  exact ihi8 () hlti8 trivial ls (lv_sub hl [0, 1, 2, 3, 4, 5, 6] rfl)
                · refine lv_iconst (v := 0) hx hb dL_agrees_138 (by decide) ?_
                  exact rp_zret hx hb hr hlocks trivial rfl dL_agrees_139
          · exact absurd c7 (by decide)
        · refine lv_iconst (v := 0) hx hb dL_agrees_38 (by decide) ?_
          exact rp_zret hx hb hr hlocks trivial rfl dL_agrees_39
