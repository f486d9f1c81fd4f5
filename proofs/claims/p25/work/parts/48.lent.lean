/-! what holds at the law's entry -/
theorem mem_pos {big : List Cond} (ws : List Cond) (ps : List Nat) (hp : ws = ps.filterMap (fun i => big[i]?)) : ∀ w ∈ ws, w ∈ big := by
  intro w hw
  rw [hp] at hw
  obtain ⟨i, -, hi⟩ := List.mem_filterMap.mp hw
  exact List.mem_of_getElem? hi
set_option maxRecDepth 100000 in
theorem wsL_r11_23 : Cond.static yL_has ∈ lw_tbl := (List.mem_append_right (k2_sels lw_privs) (List.mem_append_left (tables_1_2 ++ tables_1_3) (show Cond.static yL_has ∈ tables_1_1 from List.mem_of_getElem? (i := 89) rfl)))
set_option maxRecDepth 100000 in
theorem wsL_r11_22 : Cond.methodLink RL 60 yL_has ∈ lw_tbl := (List.mem_append_right (k2_sels lw_privs) (List.mem_append_left (tables_1_2 ++ tables_1_3) (show Cond.methodLink RL 60 yL_has ∈ tables_1_1 from List.mem_of_getElem? (i := 88) rfl)))
set_option maxRecDepth 100000 in
theorem wsL_r11_21 : Cond.code yL_many cL_many 3 (some .int) ∈ lw_tbl := (List.mem_append_right (k2_sels lw_privs) (List.mem_append_left (tables_1_2 ++ tables_1_3) (show Cond.code yL_many cL_many 3 (some .int) ∈ tables_1_1 from List.mem_of_getElem? (i := 99) rfl)))
set_option maxRecDepth 100000 in
theorem wsL_r11_20 : Cond.static yL_many ∈ lw_tbl := (List.mem_append_right (k2_sels lw_privs) (List.mem_append_left (tables_1_2 ++ tables_1_3) (show Cond.static yL_many ∈ tables_1_1 from List.mem_of_getElem? (i := 98) rfl)))
set_option maxRecDepth 100000 in
theorem wsL_r11_19 : Cond.methodLink RL 66 yL_many ∈ lw_tbl := (List.mem_append_right (k2_sels lw_privs) (List.mem_append_left (tables_1_2 ++ tables_1_3) (show Cond.methodLink RL 66 yL_many ∈ tables_1_1 from List.mem_of_getElem? (i := 97) rfl)))
set_option maxRecDepth 100000 in
theorem wsL_r11_18 : Cond.code yL_agrees cL_agrees 7 (some .boolean) ∈ lw_tbl := (List.mem_append_right (k2_sels lw_privs) (List.mem_append_left (tables_1_2 ++ tables_1_3) (show Cond.code yL_agrees cL_agrees 7 (some .boolean) ∈ tables_1_1 from List.mem_of_getElem? (i := 96) rfl)))
set_option maxRecDepth 100000 in
theorem wsL_r11_17 : Cond.static yL_agrees ∈ lw_tbl := (List.mem_append_right (k2_sels lw_privs) (List.mem_append_left (tables_1_2 ++ tables_1_3) (show Cond.static yL_agrees ∈ tables_1_1 from List.mem_of_getElem? (i := 95) rfl)))
set_option maxRecDepth 100000 in
theorem wsL_r11_16 : Cond.methodLink RL 75 yL_agrees ∈ lw_tbl := (List.mem_append_right (k2_sels lw_privs) (List.mem_append_left (tables_1_2 ++ tables_1_3) (show Cond.methodLink RL 75 yL_agrees ∈ tables_1_1 from List.mem_of_getElem? (i := 94) rfl)))
set_option maxRecDepth 100000 in
theorem wsL_r11_15 : Cond.code yL_book cL_book 9 none ∈ lw_tbl := (List.mem_append_right (k2_sels lw_privs) (List.mem_append_left (tables_1_2 ++ tables_1_3) (show Cond.code yL_book cL_book 9 none ∈ tables_1_1 from List.mem_of_getElem? (i := 93) rfl)))
set_option maxRecDepth 100000 in
theorem wsL_r11_14 : Cond.static yL_book ∈ lw_tbl := (List.mem_append_right (k2_sels lw_privs) (List.mem_append_left (tables_1_2 ++ tables_1_3) (show Cond.static yL_book ∈ tables_1_1 from List.mem_of_getElem? (i := 92) rfl)))
set_option maxRecDepth 100000 in
theorem wsL_r11_13 : Cond.methodLink RL 82 yL_book ∈ lw_tbl := (List.mem_append_right (k2_sels lw_privs) (List.mem_append_left (tables_1_2 ++ tables_1_3) (show Cond.methodLink RL 82 yL_book ∈ tables_1_1 from List.mem_of_getElem? (i := 91) rfl)))
set_option maxRecDepth 100000 in
theorem wsL_r11_12 : Cond.code yL_isBook cL_isBook 12 (some .boolean) ∈ lw_tbl := (List.mem_append_right (k2_sels lw_privs) (List.mem_append_right tables_1_1 (List.mem_append_right tables_1_2 (show Cond.code yL_isBook cL_isBook 12 (some .boolean) ∈ tables_1_3 from List.mem_of_getElem? (i := 10) rfl))))
set_option maxRecDepth 100000 in
theorem wsL_r11_11 : Cond.static yL_isBook ∈ lw_tbl := (List.mem_append_right (k2_sels lw_privs) (List.mem_append_right tables_1_1 (List.mem_append_right tables_1_2 (show Cond.static yL_isBook ∈ tables_1_3 from List.mem_of_getElem? (i := 9) rfl))))
set_option maxRecDepth 100000 in
theorem wsL_r11_10 : Cond.methodLink RL 146 yL_isBook ∈ lw_tbl := (List.mem_append_right (k2_sels lw_privs) (List.mem_append_right tables_1_1 (List.mem_append_right tables_1_2 (show Cond.methodLink RL 146 yL_isBook ∈ tables_1_3 from List.mem_of_getElem? (i := 8) rfl))))
set_option maxRecDepth 100000 in
theorem wsL_r11_9 : Cond.code yX1_lookedAt cX1_lookedAt 1 (some .int) ∈ lw_tbl := (List.mem_append_right (k2_sels lw_privs) (List.mem_append_right tables_1_1 (List.mem_append_right tables_1_2 (show Cond.code yX1_lookedAt cX1_lookedAt 1 (some .int) ∈ tables_1_3 from List.mem_of_getElem? (i := 7) rfl))))
set_option maxRecDepth 100000 in
theorem wsL_r11_8 : Cond.selects RX1 yX1_lookedAt yX1_lookedAt ∈ lw_tbl := (List.mem_append_right (k2_sels lw_privs) (List.mem_append_right tables_1_1 (List.mem_append_right tables_1_2 (show Cond.selects RX1 yX1_lookedAt yX1_lookedAt ∈ tables_1_3 from List.mem_of_getElem? (i := 6) rfl))))
set_option maxRecDepth 100000 in
theorem wsL_r11_7 : Cond.instanceMethod yX1_lookedAt ∈ lw_tbl := (List.mem_append_right (k2_sels lw_privs) (List.mem_append_right tables_1_1 (List.mem_append_right tables_1_2 (show Cond.instanceMethod yX1_lookedAt ∈ tables_1_3 from List.mem_of_getElem? (i := 5) rfl))))
set_option maxRecDepth 100000 in
theorem wsL_r11_6 : Cond.methodLink RL 143 yX1_lookedAt ∈ lw_tbl := (List.mem_append_right (k2_sels lw_privs) (List.mem_append_right tables_1_1 (List.mem_append_right tables_1_2 (show Cond.methodLink RL 143 yX1_lookedAt ∈ tables_1_3 from List.mem_of_getElem? (i := 4) rfl))))
set_option maxRecDepth 100000 in
theorem wsL_r11_5 : Cond.code yX1_alive cX1_alive 1 (some .int) ∈ lw_tbl := (List.mem_append_right (k2_sels lw_privs) (List.mem_append_right tables_1_1 (List.mem_append_right tables_1_2 (show Cond.code yX1_alive cX1_alive 1 (some .int) ∈ tables_1_3 from List.mem_of_getElem? (i := 3) rfl))))
set_option maxRecDepth 100000 in
theorem wsL_r11_4 : Cond.selects RX1 yX1_alive yX1_alive ∈ lw_tbl := (List.mem_append_right (k2_sels lw_privs) (List.mem_append_right tables_1_1 (List.mem_append_right tables_1_2 (show Cond.selects RX1 yX1_alive yX1_alive ∈ tables_1_3 from List.mem_of_getElem? (i := 2) rfl))))
set_option maxRecDepth 100000 in
theorem wsL_r11_3 : Cond.instanceMethod yX1_alive ∈ lw_tbl := (List.mem_append_right (k2_sels lw_privs) (List.mem_append_right tables_1_1 (List.mem_append_right tables_1_2 (show Cond.instanceMethod yX1_alive ∈ tables_1_3 from List.mem_of_getElem? (i := 1) rfl))))
set_option maxRecDepth 100000 in
theorem wsL_r11_2 : Cond.methodLink RL 140 yX1_alive ∈ lw_tbl := (List.mem_append_right (k2_sels lw_privs) (List.mem_append_right tables_1_1 (List.mem_append_right tables_1_2 (show Cond.methodLink RL 140 yX1_alive ∈ tables_1_3 from List.mem_of_getElem? (i := 0) rfl))))
set_option maxRecDepth 100000 in
theorem wsL_r11_1 : Cond.code yX1_day cX1_day 1 (some .int) ∈ lw_tbl := (List.mem_append_right (k2_sels lw_privs) (List.mem_append_right tables_1_1 (List.mem_append_left tables_1_3 (show Cond.code yX1_day cX1_day 1 (some .int) ∈ tables_1_2 from List.mem_of_getElem? (i := 239) rfl))))
set_option maxRecDepth 100000 in
theorem wsL_r11_0 : Cond.selects RX1 yX1_day yX1_day ∈ lw_tbl := (List.mem_append_right (k2_sels lw_privs) (List.mem_append_right tables_1_1 (List.mem_append_left tables_1_3 (show Cond.selects RX1 yX1_day yX1_day ∈ tables_1_2 from List.mem_of_getElem? (i := 238) rfl))))
theorem wsL_r11 : ∀ w ∈ wsL_law0_r11, w ∈ lw_tbl := (List.forall_mem_cons.mpr ⟨wsL_r11_0, (List.forall_mem_cons.mpr ⟨wsL_r11_1, (List.forall_mem_cons.mpr ⟨wsL_r11_2, (List.forall_mem_cons.mpr ⟨wsL_r11_3, (List.forall_mem_cons.mpr ⟨wsL_r11_4, (List.forall_mem_cons.mpr ⟨wsL_r11_5, (List.forall_mem_cons.mpr ⟨wsL_r11_6, (List.forall_mem_cons.mpr ⟨wsL_r11_7, (List.forall_mem_cons.mpr ⟨wsL_r11_8, (List.forall_mem_cons.mpr ⟨wsL_r11_9, (List.forall_mem_cons.mpr ⟨wsL_r11_10, (List.forall_mem_cons.mpr ⟨wsL_r11_11, (List.forall_mem_cons.mpr ⟨wsL_r11_12, (List.forall_mem_cons.mpr ⟨wsL_r11_13, (List.forall_mem_cons.mpr ⟨wsL_r11_14, (List.forall_mem_cons.mpr ⟨wsL_r11_15, (List.forall_mem_cons.mpr ⟨wsL_r11_16, (List.forall_mem_cons.mpr ⟨wsL_r11_17, (List.forall_mem_cons.mpr ⟨wsL_r11_18, (List.forall_mem_cons.mpr ⟨wsL_r11_19, (List.forall_mem_cons.mpr ⟨wsL_r11_20, (List.forall_mem_cons.mpr ⟨wsL_r11_21, (List.forall_mem_cons.mpr ⟨wsL_r11_22, (List.forall_mem_cons.mpr ⟨wsL_r11_23, (fun _ h => absurd h List.not_mem_nil)⟩)⟩)⟩)⟩)⟩)⟩)⟩)⟩)⟩)⟩)⟩)⟩)⟩)⟩)⟩)⟩)⟩)⟩)⟩)⟩)⟩)⟩)⟩)⟩)
set_option maxRecDepth 100000 in
theorem wsL_r15_13 : Cond.code yL_nights cL_nights 7 (some .boolean) ∈ lw_tbl := (List.mem_append_right (k2_sels lw_privs) (List.mem_append_right tables_1_1 (List.mem_append_left tables_1_3 (show Cond.code yL_nights cL_nights 7 (some .boolean) ∈ tables_1_2 from List.mem_of_getElem? (i := 154) rfl))))
set_option maxRecDepth 100000 in
theorem wsL_r15_12 : Cond.static yL_nights ∈ lw_tbl := (List.mem_append_right (k2_sels lw_privs) (List.mem_append_right tables_1_1 (List.mem_append_left tables_1_3 (show Cond.static yL_nights ∈ tables_1_2 from List.mem_of_getElem? (i := 153) rfl))))
set_option maxRecDepth 100000 in
theorem wsL_r15_11 : Cond.methodLink RL 170 yL_nights ∈ lw_tbl := (List.mem_append_right (k2_sels lw_privs) (List.mem_append_right tables_1_1 (List.mem_append_left tables_1_3 (show Cond.methodLink RL 170 yL_nights ∈ tables_1_2 from List.mem_of_getElem? (i := 152) rfl))))
set_option maxRecDepth 100000 in
theorem wsL_r15_10 : Cond.code yL_over cL_over 2 none ∈ lw_tbl := (List.mem_append_right (k2_sels lw_privs) (List.mem_append_right tables_1_1 (List.mem_append_left tables_1_3 (show Cond.code yL_over cL_over 2 none ∈ tables_1_2 from List.mem_of_getElem? (i := 151) rfl))))
set_option maxRecDepth 100000 in
theorem wsL_r15_9 : Cond.static yL_over ∈ lw_tbl := (List.mem_append_right (k2_sels lw_privs) (List.mem_append_right tables_1_1 (List.mem_append_left tables_1_3 (show Cond.static yL_over ∈ tables_1_2 from List.mem_of_getElem? (i := 150) rfl))))
set_option maxRecDepth 100000 in
theorem wsL_r15_8 : Cond.methodLink RL 100 yL_over ∈ lw_tbl := (List.mem_append_right (k2_sels lw_privs) (List.mem_append_right tables_1_1 (List.mem_append_left tables_1_3 (show Cond.methodLink RL 100 yL_over ∈ tables_1_2 from List.mem_of_getElem? (i := 149) rfl))))
set_option maxRecDepth 100000 in
theorem wsL_r15_7 : Cond.code yL_votes cL_votes 16 (some .boolean) ∈ lw_tbl := (List.mem_append_right (k2_sels lw_privs) (List.mem_append_right tables_1_1 (List.mem_append_left tables_1_3 (show Cond.code yL_votes cL_votes 16 (some .boolean) ∈ tables_1_2 from List.mem_of_getElem? (i := 116) rfl))))
set_option maxRecDepth 100000 in
theorem wsL_r15_6 : Cond.static yL_votes ∈ lw_tbl := (List.mem_append_right (k2_sels lw_privs) (List.mem_append_right tables_1_1 (List.mem_append_left tables_1_3 (show Cond.static yL_votes ∈ tables_1_2 from List.mem_of_getElem? (i := 115) rfl))))
set_option maxRecDepth 100000 in
theorem wsL_r15_5 : Cond.methodLink RL 166 yL_votes ∈ lw_tbl := (List.mem_append_right (k2_sels lw_privs) (List.mem_append_right tables_1_1 (List.mem_append_left tables_1_3 (show Cond.methodLink RL 166 yL_votes ∈ tables_1_2 from List.mem_of_getElem? (i := 114) rfl))))
set_option maxRecDepth 100000 in
theorem wsL_r15_4 : Cond.code yL_says cL_says 11 (some .boolean) ∈ lw_tbl := (List.mem_append_right (k2_sels lw_privs) (List.mem_append_right tables_1_1 (List.mem_append_left tables_1_3 (show Cond.code yL_says cL_says 11 (some .boolean) ∈ tables_1_2 from List.mem_of_getElem? (i := 12) rfl))))
set_option maxRecDepth 100000 in
theorem wsL_r15_3 : Cond.static yL_says ∈ lw_tbl := (List.mem_append_right (k2_sels lw_privs) (List.mem_append_right tables_1_1 (List.mem_append_left tables_1_3 (show Cond.static yL_says ∈ tables_1_2 from List.mem_of_getElem? (i := 11) rfl))))
set_option maxRecDepth 100000 in
theorem wsL_r15_2 : Cond.methodLink RL 162 yL_says ∈ lw_tbl := (List.mem_append_right (k2_sels lw_privs) (List.mem_append_right tables_1_1 (List.mem_append_left tables_1_3 (show Cond.methodLink RL 162 yL_says ∈ tables_1_2 from List.mem_of_getElem? (i := 10) rfl))))
set_option maxRecDepth 100000 in
theorem wsL_r15_1 : Cond.code yX0_addWorlds cX0_addWorlds 8 (some .int) ∈ lw_tbl := (List.mem_append_right (k2_sels lw_privs) (List.mem_append_left (tables_1_2 ++ tables_1_3) (show Cond.code yX0_addWorlds cX0_addWorlds 8 (some .int) ∈ tables_1_1 from List.mem_of_getElem? (i := 228) rfl)))
theorem wsL_r15_0 : Cond.selects RX0 yX0_addWorlds yX0_addWorlds ∈ lw_tbl := List.mem_of_getElem? (i := 4) (by decide +kernel)
theorem wsL_r15 : ∀ w ∈ wsL_law0_r15, w ∈ lw_tbl := (List.forall_mem_cons.mpr ⟨wsL_r15_0, (List.forall_mem_cons.mpr ⟨wsL_r15_1, (List.forall_mem_cons.mpr ⟨wsL_r15_2, (List.forall_mem_cons.mpr ⟨wsL_r15_3, (List.forall_mem_cons.mpr ⟨wsL_r15_4, (List.forall_mem_cons.mpr ⟨wsL_r15_5, (List.forall_mem_cons.mpr ⟨wsL_r15_6, (List.forall_mem_cons.mpr ⟨wsL_r15_7, (List.forall_mem_cons.mpr ⟨wsL_r15_8, (List.forall_mem_cons.mpr ⟨wsL_r15_9, (List.forall_mem_cons.mpr ⟨wsL_r15_10, (List.forall_mem_cons.mpr ⟨wsL_r15_11, (List.forall_mem_cons.mpr ⟨wsL_r15_12, (List.forall_mem_cons.mpr ⟨wsL_r15_13, (fun _ h => absurd h List.not_mem_nil)⟩)⟩)⟩)⟩)⟩)⟩)⟩)⟩)⟩)⟩)⟩)⟩)⟩)⟩)
set_option maxRecDepth 20000 in
theorem wsL_r1 : ∀ w ∈ wsL_law0_r1, w ∈ lw_tbl := mem_pos _ [40, 41, 28, 61, 42, 43, 44, 45, 46, 47, 48, 49, 29, 62, 63, 64, 72, 73, 74, 75, 51, 52, 53, 54] (by decide +kernel)
set_option maxRecDepth 20000 in
theorem wsL_r2 : ∀ w ∈ wsL_law0_r2, w ∈ lw_tbl := mem_pos _ [456, 457, 27, 458, 459, 460, 461, 462, 463, 464, 465, 283, 284, 466, 467, 468, 469, 290, 292, 9, 293, 294, 33, 470] (by decide +kernel)
set_option maxRecDepth 20000 in
theorem wsL_r3 : ∀ w ∈ wsL_law0_r3, w ∈ lw_tbl := mem_pos _ [472, 21, 473, 310, 312, 10, 313, 314, 34, 66, 258, 260, 5, 261, 70, 68, 71, 144, 145, 146, 262, 263, 264, 156] (by decide +kernel)
set_option maxRecDepth 20000 in
theorem wsL_r4 : ∀ w ∈ wsL_law0_r4, w ∈ lw_tbl := mem_pos _ [157, 158, 265, 267, 6, 268, 67, 271, 7, 272, 273, 275, 8, 276, 55, 280, 281, 282, 136, 285, 286, 287, 288, 289] (by decide +kernel)
set_option maxRecDepth 20000 in
theorem wsL_r5 : ∀ w ∈ wsL_law0_r5, w ∈ lw_tbl := mem_pos _ [159, 35, 331, 332, 333, 334, 335, 336, 337, 339, 11, 340, 353, 36, 341, 343, 12, 344, 347, 13, 348, 349, 350, 351] (by decide +kernel)
set_option maxRecDepth 20000 in
theorem wsL_r6 : ∀ w ∈ wsL_law0_r6, w ∈ lw_tbl := mem_pos _ [371, 14, 372, 373, 374, 375, 376, 377, 378, 379, 384, 385, 386, 387, 388, 389, 390, 391, 393, 15, 394, 397, 399, 16] (by decide +kernel)
set_option maxRecDepth 20000 in
theorem wsL_r7 : ∀ w ∈ wsL_law0_r7, w ∈ lw_tbl := mem_pos _ [400, 445, 446, 447, 448, 449, 450, 451, 65, 412, 414, 18, 415, 147, 148, 37, 149, 150, 151, 152, 452, 454, 20, 455] (by decide +kernel)
set_option maxRecDepth 20000 in
theorem wsL_r8 : ∀ w ∈ wsL_law0_r8, w ∈ lw_tbl := mem_pos _ [235, 237, 2, 238, 401, 402, 403, 404, 405, 406, 407, 408, 410, 17, 411, 228, 230, 1, 231, 232, 233, 38, 234, 474] (by decide +kernel)
set_option maxRecDepth 20000 in
theorem wsL_r9 : ∀ w ∈ wsL_law0_r9, w ∈ lw_tbl := mem_pos _ [475, 476, 477, 478, 479, 480, 239, 240, 241, 483, 22, 484, 485, 486, 487, 488, 489, 490, 491, 495, 23, 496, 422, 423] (by decide +kernel)
set_option maxRecDepth 20000 in
theorem wsL_r10 : ∀ w ∈ wsL_law0_r10, w ∈ lw_tbl := mem_pos _ [424, 425, 426, 427, 428, 69, 429, 431, 19, 432, 435, 436, 437, 438, 440, 441, 442, 443, 499, 500, 501, 502, 503, 504] (by decide +kernel)
set_option maxRecDepth 20000 in
theorem wsL_r12 : ∀ w ∈ wsL_law0_r12, w ∈ lw_tbl := mem_pos _ [117, 127, 128, 129, 130, 131, 132, 518, 519, 520, 521, 522, 523, 39, 524, 109, 110, 111, 525, 526, 527, 528, 531, 24] (by decide +kernel)
set_option maxRecDepth 20000 in
theorem wsL_r13 : ∀ w ∈ wsL_law0_r13, w ∈ lw_tbl := mem_pos _ [532, 248, 249, 533, 534, 535, 536, 539, 25, 540, 541, 542, 543, 544, 547, 26, 548, 549, 550, 551, 552, 105, 106, 107] (by decide +kernel)
set_option maxRecDepth 20000 in
theorem wsL_r14 : ∀ w ∈ wsL_law0_r14, w ∈ lw_tbl := mem_pos _ [108, 112, 113, 114, 133, 134, 135, 137, 138, 139, 140, 141, 142, 143, 153, 154, 155, 244, 3, 245, 246, 250, 252, 254] (by decide +kernel)
theorem wsL_x10 : ∀ w ∈ wsX10, w ∈ lw_tbl := by decide +kernel
theorem wsL_x00 : ∀ w ∈ wsX00, w ∈ lw_tbl := by decide +kernel
theorem wsL_law_in0 : ∀ w ∈ wsL_law0, w ∈ lw_tbl := by
  have hA := List.forall_mem_append.mpr ⟨wsL_r1, List.forall_mem_append.mpr ⟨wsL_r2, List.forall_mem_append.mpr ⟨wsL_r3, List.forall_mem_append.mpr ⟨wsL_r4, List.forall_mem_append.mpr ⟨wsL_r5, List.forall_mem_append.mpr ⟨wsL_r6, List.forall_mem_append.mpr ⟨wsL_r7, List.forall_mem_append.mpr ⟨wsL_r8, List.forall_mem_append.mpr ⟨wsL_r9, List.forall_mem_append.mpr ⟨wsL_r10, List.forall_mem_append.mpr ⟨wsL_r11, List.forall_mem_append.mpr ⟨wsL_r12, List.forall_mem_append.mpr ⟨wsL_r13, List.forall_mem_append.mpr ⟨wsL_r14, wsL_r15⟩⟩⟩⟩⟩⟩⟩⟩⟩⟩⟩⟩⟩⟩
  unfold wsL_law0
  exact List.forall_mem_append.mpr ⟨List.forall_mem_append.mpr ⟨List.forall_mem_append.mpr ⟨hA, wsL_x10⟩, wsL_x00⟩, fun _ h => absurd h List.not_mem_nil⟩
theorem wsL_law_x0 : ∀ w ∈ (vx_atS RX1 175 "java/lang/IllegalStateException" ["java/lang/RuntimeException", "java/lang/Exception"]).filter goodWord, w ∈ lw_tbl := by decide +kernel
theorem wsL_law_x1 : ∀ w ∈ (vx_atS RX1 184 "java/lang/IndexOutOfBoundsException" ["java/lang/RuntimeException", "java/lang/Exception"]).filter goodWord, w ∈ lw_tbl := by decide +kernel
theorem wsL_law_x2 : ∀ w ∈ (vx_atS RX1 44 "java/lang/IllegalArgumentException" ["java/lang/RuntimeException", "java/lang/Exception"]).filter goodWord, w ∈ lw_tbl := by decide +kernel
theorem wsL_law_x3 : ∀ w ∈ nsW, w ∈ lw_tbl := by decide +kernel
theorem wsL_law_in : ∀ w ∈ wsL_law, w ∈ lw_tbl := fun w h => (List.mem_append.mp h).elim (fun h => (List.mem_append.mp h).elim (fun h => (List.mem_append.mp h).elim (fun h => (List.mem_append.mp h).elim (fun h => wsL_law_in0 w h) (fun h => wsL_law_x0 w h)) (fun h => wsL_law_x1 w h)) (fun h => wsL_law_x2 w h)) (fun h => wsL_law_x3 w h)
theorem nlL_in : ∀ q ∈ nlL, Cond.methodLinkNest q.1 q.2.1 q.2.2 RX1 ∈ lw_tbl := by decide +kernel
theorem nlS_in : ∀ q ∈ nlS, Cond.stringRef RX1 q.1 q.2 ∈ lw_tbl := by decide +kernel
theorem nlC_in : ∀ x ∈ nlC, Cond.castable x x ∈ lw_tbl := by decide +kernel
theorem nlD_in : ∀ x ∈ nlD, Cond.declares x ∈ lw_tbl := by decide +kernel
section Entry
variable {s : State} {args : Array Value}
theorem lw_NM (hts : ∀ w ∈ lw_tbl, w.before args s = true) {c1 : ClassId} (h1 : s.vm.findClass RX1 = some c1) : NM s := by
  refine ⟨fun q hq => va_Nw.of rfl (hts _ (nlL_in q hq)), fun q hq => ?_, fun x hx => va_Nw.of rfl (hts _ (nlC_in x hx))⟩
  have h2 := hts _ (nlS_in q hq)
  obtain ⟨k, cf, i, a, -, -, -, -, -, hev⟩ := Cond.stringRef_spec h1 h2
  exact ⟨a, vk_R.of h2 hev⟩
theorem lw_ND (hts : ∀ w ∈ lw_tbl, w.before args s = true) : ND s := fun x hx => va_Nw.of rfl (hts _ (nlD_in x hx))
theorem lw_NX (hgv : (Jvm.Cond.and given_1 narrow_1).before args s = true) : NX s := by
  have hs := flat_of_before _ hgv
  intro q hq
  simp only [nlX, List.mem_cons, List.not_mem_nil, or_false] at hq
  rcases hq with rfl | rfl | rfl | rfl | rfl | rfl | rfl | rfl | rfl | rfl | rfl | rfl
  · exact va_Nc.of (hs _ (by decide +kernel))
  · exact va_Nc.of (hs _ (by decide +kernel))
  · exact va_Nc.of (hs _ (by decide +kernel))
  · exact va_Nc.of (hs _ (by decide +kernel))
  · exact va_Nc.of (hs _ (by decide +kernel))
  · exact va_Nc.of (hs _ (by decide +kernel))
  · exact va_Nc.of (hs _ (by decide +kernel))
  · exact va_Nc.of (hs _ (by decide +kernel))
  · exact va_Nc.of (hs _ (by decide +kernel))
  · exact va_Nc.of (hs _ (by decide +kernel))
  · exact va_Nc.of (hs _ (by decide +kernel))
  · exact va_Nc.of (hs _ (by decide +kernel))
theorem lw_ZQ (hts : ∀ w ∈ lw_tbl, w.before args s = true) (hgv : (Jvm.Cond.and given_1 narrow_1).before args s = true) : ZQ (fun q : Nat => s.heap.size ≤ q) s s.heap := by
  have hs := flat_of_before _ hgv
  exact ⟨vx_Zqof (hts (.laysStatic Bundle.tN "UNASSIGNED_STACK" Bundle.steD) (by decide +kernel)) (hts (.initialized Bundle.tN) (by decide +kernel)) (hs (.isRef (.static Bundle.tN "UNASSIGNED_STACK" Bundle.steD)) (by decide +kernel)) (fun _ h => Nat.not_le.mpr h),
    vx_Zqof (hts (.laysStatic Bundle.tN "SUPPRESSED_SENTINEL" Bundle.listD) (by decide +kernel)) (hts (.initialized Bundle.tN) (by decide +kernel)) (hs (.isRef (.static Bundle.tN "SUPPRESSED_SENTINEL" Bundle.listD)) (by decide +kernel)) (fun _ h => Nat.not_le.mpr h)⟩
theorem ka_I (h : (Cond.arrayClass .int).before args s = true) : ∃ cA : ClassId, ArrOfT s cA .int ∧ va_RA s cA .int := by
  obtain ⟨cA, kA, comp, hfind, hk, hkind⟩ := Cond.arrayClass_spec h
  exact ⟨cA, fun n z => ⟨fun k h => (by cases h), kA, hk, comp, hkind⟩, hfind⟩
theorem lw_K (hts : ∀ w ∈ lw_tbl, w.before args s = true) : ∃ (D : va_G) (cI : ClassId), va_K D vwCl (tys9 cI cI cI) s := by
  obtain ⟨c0, iS0, h0⟩ := u_known (C := RX0) (T := TX0) (N := 2) (n := 2) hts wsL_x00 (hts (.instantiable RX0 2) (wsL_r1 _ (List.mem_of_getElem? (i := 11) rfl)))
  obtain ⟨c1, iS1, h1⟩ := u_known (C := RX1) (T := TX1) (N := 14) (n := 14) hts wsL_x10 (hts (.instantiable RX1 14) (wsL_r1 _ (List.mem_of_getElem? (i := 1) rfl)))
  obtain ⟨cI, i1, i2⟩ := ka_I (hts (.arrayClass .int) (wsL_r1 _ (List.mem_of_getElem? (i := 3) rfl)))
  refine ⟨(fun k => if k = 0 then c0 else c1, fun k => if k = 0 then iS0 else iS1), cI, fun k q hq => ?_, fun k q hq => ?_⟩
  · match k, hq with
    | 0, hq => cases hq; exact h0
    | 1, hq => cases hq; exact h1
    | k + 2, hq => simp [vwCl] at hq
  · match k, hq with
    | 0, hq => cases hq; exact ⟨i1, i2⟩
    | k + 1, hq => simp at hq
end Entry
theorem fl_no (l : Launch) (h : l.flags = flags0) : l.stackTraces = false := by
  unfold Launch.stackTraces
  rw [h]
  decide +kernel
