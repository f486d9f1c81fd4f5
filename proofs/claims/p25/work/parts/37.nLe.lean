set_option maxRecDepth 20000 in
theorem gc_isTold_wsL_isBook_r1 : GoodIn wsL_isTold wsL_isBook_r1 := goodIn_r _ [237, 238, 9, 239, 240, 241, 242, 243, 244, 245, 246, 247, 248, 249, 250, 251, 252, 253, 254, 188, 189, 190, 11, 12] (by decide +kernel) (by decide +kernel)
set_option maxRecDepth 20000 in
theorem gc_isTold_wsL_isBook_r2 : GoodIn wsL_isTold wsL_isBook_r2 := goodIn_r _ [69, 191, 192, 193, 4, 194, 75, 76, 17, 18, 19, 20, 21, 22, 23, 6, 24, 25, 26, 27, 28, 29, 30, 31] (by decide +kernel) (by decide +kernel)
set_option maxRecDepth 20000 in
theorem gc_isTold_wsL_isBook_r3 : GoodIn wsL_isTold wsL_isBook_r3 := goodIn_r _ [32, 33, 34, 35, 36, 37, 38, 39, 40, 41, 42, 43, 44, 45, 46, 47, 48, 49, 50, 51, 52, 53, 54, 55] (by decide +kernel) (by decide +kernel)
set_option maxRecDepth 20000 in
theorem gc_isTold_wsL_isBook_r4 : GoodIn wsL_isTold wsL_isBook_r4 := goodIn_r _ [195, 57, 196, 197, 60, 81, 82, 61, 62, 63, 64, 65, 255, 256, 257, 258, 259, 260, 261, 262, 56, 58, 59, 89] (by decide +kernel) (by decide +kernel)
set_option maxRecDepth 20000 in
theorem gc_isTold_wsL_isBook_r5 : GoodIn wsL_isTold wsL_isBook_r5 := goodIn_r _ [90, 91, 92, 263, 264, 265, 7, 8, 10, 13, 14, 15, 16, 266, 267, 268, 269, 270, 271, 272, 273, 274, 275, 276] (by decide +kernel) (by decide +kernel)
set_option maxRecDepth 20000 in
theorem gc_isTold_wsL_isBook_r6 : GoodIn wsL_isTold wsL_isBook_r6 := goodIn_r _ [277, 278, 279, 280, 281, 282, 283, 284, 285, 286, 287, 288, 289, 290, 291, 292, 175, 176, 177, 178, 179, 180, 181, 182] (by decide +kernel) (by decide +kernel)
set_option maxRecDepth 20000 in
theorem gc_isTold_wsL_isBook_r7 : GoodIn wsL_isTold wsL_isBook_r7 := goodIn_r _ [183, 184, 185, 186, 187] (by decide +kernel) (by decide +kernel)
set_option maxRecDepth 20000 in
theorem gc_isTold_isBook_0 : GoodIn wsL_isTold (wsX10) := goodIn_sub (fun _ h => (List.mem_cons_of_mem _ (List.mem_append_left _ (List.mem_append_left _ (List.mem_append_left _ (List.mem_append_left _ (List.mem_append_left _ (List.mem_append_right _ h)))))))) (by decide +kernel)
set_option maxRecDepth 20000 in
theorem gc_isTold_isBook_1 : GoodIn wsL_isTold (wsX00) := goodIn_sub (fun _ h => (List.mem_cons_of_mem _ (List.mem_append_left _ (List.mem_append_left _ (List.mem_append_left _ (List.mem_append_left _ (List.mem_append_right _ h))))))) (by decide +kernel)
set_option maxRecDepth 20000 in
theorem gc_isTold_isBook_2 : GoodIn wsL_isTold ((vx_atS RX1 44 "java/lang/IllegalArgumentException" ["java/lang/RuntimeException", "java/lang/Exception"]).filter goodWord) := goodIn_sub (fun _ h => (List.mem_cons_of_mem _ (List.mem_append_left _ (List.mem_append_right _ h)))) (by decide +kernel)
set_option maxRecDepth 20000 in
theorem gc_isTold_isBook_3 : GoodIn wsL_isTold ((vx_atS RX1 175 "java/lang/IllegalStateException" ["java/lang/RuntimeException", "java/lang/Exception"]).filter goodWord) := goodIn_sub (fun _ h => (List.mem_cons_of_mem _ (List.mem_append_left _ (List.mem_append_left _ (List.mem_append_left _ (List.mem_append_right _ h)))))) (by decide +kernel)
set_option maxRecDepth 20000 in
theorem gc_isTold_isBook_4 : GoodIn wsL_isTold ((vx_atS RX1 184 "java/lang/IndexOutOfBoundsException" ["java/lang/RuntimeException", "java/lang/Exception"]).filter goodWord) := goodIn_sub (fun _ h => (List.mem_cons_of_mem _ (List.mem_append_left _ (List.mem_append_left _ (List.mem_append_right _ h))))) (by decide +kernel)
theorem ggL_isTold_L_isBook : GoodIn wsL_isTold wsL_isBook := (goodIn_app (a := [Cond.code yL_isBook cL_isBook 12 (some .boolean)]) (goodIn_r _ [236] (by decide +kernel) (by decide +kernel)) (goodIn_app (goodIn_app (goodIn_app (goodIn_app (goodIn_app (goodIn_app gc_isTold_wsL_isBook_r1 (goodIn_app gc_isTold_wsL_isBook_r2 (goodIn_app gc_isTold_wsL_isBook_r3 (goodIn_app gc_isTold_wsL_isBook_r4 (goodIn_app gc_isTold_wsL_isBook_r5 (goodIn_app gc_isTold_wsL_isBook_r6 gc_isTold_wsL_isBook_r7)))))) gc_isTold_isBook_0) gc_isTold_isBook_1) gc_isTold_isBook_2) gc_isTold_isBook_3) gc_isTold_isBook_4))
set_option maxRecDepth 20000 in
theorem gL_isTold_L_isBook : GoodIn wsL_isTold (va_wsS RL 146 yL_isBook wsL_isBook) := goodIn_app (goodIn_of _ (by decide +kernel)) ggL_isTold_L_isBook
set_option maxRecDepth 20000 in
theorem gc_law_wsL_begins_r1 : GoodIn wsL_law wsL_begins_r1 := goodIn_r _ [279, 280, 26, 281, 262, 263, 264, 253, 254, 255, 256, 257, 258, 259, 260, 261, 265, 266, 267, 268, 269, 270, 316, 317] (by decide +kernel) (by decide +kernel)
set_option maxRecDepth 20000 in
theorem gc_law_wsL_begins_r2 : GoodIn wsL_law wsL_begins_r2 := goodIn_r _ [318, 90, 319, 320, 321, 2, 322, 96, 97, 57, 78, 63, 221, 62, 64, 152, 15, 19, 13, 323, 324, 325, 65, 66] (by decide +kernel) (by decide +kernel)
set_option maxRecDepth 20000 in
theorem gc_law_wsL_begins_r3 : GoodIn wsL_law wsL_begins_r3 := goodIn_r _ [67, 157, 158, 159, 160, 161, 162, 163, 326, 327, 328, 71, 72, 73, 183, 184, 185, 186, 14, 187, 188, 189, 190, 168] (by decide +kernel) (by decide +kernel)
set_option maxRecDepth 20000 in
theorem gc_law_wsL_begins_r4 : GoodIn wsL_law wsL_begins_r4 := goodIn_r _ [169, 170, 171, 16, 17, 18, 198, 199, 200, 329, 12, 330, 331, 86, 23, 332, 289, 290, 333, 334, 335, 336, 337, 58] (by decide +kernel) (by decide +kernel)
set_option maxRecDepth 20000 in
theorem gc_law_wsL_begins_r5 : GoodIn wsL_law wsL_begins_r5 := goodIn_r _ [59, 60, 61, 68, 69, 70, 74, 75, 76, 77, 79, 80, 81, 82, 83, 84, 85] (by decide +kernel) (by decide +kernel)
set_option maxRecDepth 20000 in
theorem gc_law_begins_0 : GoodIn wsL_law (wsX10) := goodIn_sub (fun _ h => (List.mem_append_left _ (List.mem_append_left _ (List.mem_append_left _ (List.mem_append_left _ (List.mem_append_left _ (List.mem_append_left _ (List.mem_append_right _ h)))))))) (by decide +kernel)
set_option maxRecDepth 20000 in
theorem gc_law_begins_1 : GoodIn wsL_law (wsX00) := goodIn_sub (fun _ h => (List.mem_append_left _ (List.mem_append_left _ (List.mem_append_left _ (List.mem_append_left _ (List.mem_append_left _ (List.mem_append_right _ h))))))) (by decide +kernel)
set_option maxRecDepth 20000 in
theorem gc_law_begins_2 : GoodIn wsL_law ((vx_atS RX1 44 "java/lang/IllegalArgumentException" ["java/lang/RuntimeException", "java/lang/Exception"]).filter goodWord) := goodIn_sub (fun _ h => (List.mem_append_left _ (List.mem_append_right _ h))) (by decide +kernel)
theorem ggL_law_L_begins : GoodIn wsL_law wsL_begins := (goodIn_app (a := [Cond.code yL_begins cL_begins 12 (some .boolean)]) (goodIn_r _ [315] (by decide +kernel) (by decide +kernel)) (goodIn_app (goodIn_app (goodIn_app (goodIn_app gc_law_wsL_begins_r1 (goodIn_app gc_law_wsL_begins_r2 (goodIn_app gc_law_wsL_begins_r3 (goodIn_app gc_law_wsL_begins_r4 gc_law_wsL_begins_r5)))) gc_law_begins_0) gc_law_begins_1) gc_law_begins_2))
set_option maxRecDepth 20000 in
theorem gL_law_L_begins : GoodIn wsL_law (va_wsS RL 159 yL_begins wsL_begins) := goodIn_app (goodIn_of _ (by decide +kernel)) ggL_law_L_begins
set_option maxRecDepth 20000 in
theorem gc_law_wsL_isTold_r1 : GoodIn wsL_law wsL_isTold_r1 := goodIn_r _ [28, 29, 30, 2, 31, 15, 32, 33, 26, 34, 35, 36, 37, 38, 39, 40, 13, 41, 42, 43, 44, 45, 46, 47] (by decide +kernel) (by decide +kernel)
set_option maxRecDepth 20000 in
theorem gc_law_wsL_isTold_r2 : GoodIn wsL_law wsL_isTold_r2 := goodIn_r _ [48, 49, 50, 51, 52, 53, 54, 55, 56, 57, 58, 59, 60, 61, 62, 63, 64, 65, 66, 67, 68, 69, 70, 71] (by decide +kernel) (by decide +kernel)
set_option maxRecDepth 20000 in
theorem gc_law_wsL_isTold_r3 : GoodIn wsL_law wsL_isTold_r3 := goodIn_r _ [72, 73, 74, 75, 76, 77, 78, 79, 12, 80, 81, 23, 82, 83, 84, 85, 86, 87, 88, 89, 90, 91, 92, 93] (by decide +kernel) (by decide +kernel)
set_option maxRecDepth 20000 in
theorem gc_law_wsL_isTold_r4 : GoodIn wsL_law wsL_isTold_r4 := goodIn_r _ [94, 95, 96, 97, 98, 99, 100, 101, 102, 103, 104, 105, 106, 107, 108, 109, 110, 111, 112, 113, 114, 115, 116, 117] (by decide +kernel) (by decide +kernel)
set_option maxRecDepth 20000 in
theorem gc_law_wsL_isTold_r5 : GoodIn wsL_law wsL_isTold_r5 := goodIn_r _ [118, 119, 120, 121, 122, 123, 124, 125, 126, 127, 128, 129, 130, 131, 132, 133, 134, 135, 136, 14, 137, 138, 139, 140] (by decide +kernel) (by decide +kernel)
set_option maxRecDepth 20000 in
theorem gc_law_wsL_isTold_r6 : GoodIn wsL_law wsL_isTold_r6 := goodIn_r _ [141, 142, 143, 144, 145, 146, 147, 148, 149, 150, 151, 17, 16, 152, 19, 153, 154, 155, 156, 157, 158, 159, 160, 161] (by decide +kernel) (by decide +kernel)
set_option maxRecDepth 20000 in
theorem gc_law_wsL_isTold_r7 : GoodIn wsL_law wsL_isTold_r7 := goodIn_r _ [162, 163, 164, 165, 166, 167, 18, 168, 169, 170, 171, 172, 173, 174, 175, 176, 177, 178, 179, 180, 181, 182, 183, 184] (by decide +kernel) (by decide +kernel)
set_option maxRecDepth 20000 in
theorem gc_law_wsL_isTold_r8 : GoodIn wsL_law wsL_isTold_r8 := goodIn_r _ [185, 186, 187, 188, 189, 190, 191, 192, 193, 194, 195, 196, 197, 198, 199, 200, 201, 202, 203, 204, 205, 206, 207, 208] (by decide +kernel) (by decide +kernel)
set_option maxRecDepth 20000 in
theorem gc_law_wsL_isTold_r9 : GoodIn wsL_law wsL_isTold_r9 := goodIn_r _ [209, 210, 211, 212, 213, 214, 215, 216, 217, 218, 219, 220, 221, 222, 223, 224, 225, 226, 227, 228, 229, 230, 231, 232] (by decide +kernel) (by decide +kernel)
set_option maxRecDepth 20000 in
theorem gc_law_wsL_isTold_r10 : GoodIn wsL_law wsL_isTold_r10 := goodIn_r _ [233, 234, 235, 236, 237, 238, 239, 240, 241, 242, 243, 244, 245, 246, 247, 248, 249, 250, 251, 252, 253, 254, 255, 256] (by decide +kernel) (by decide +kernel)
set_option maxRecDepth 20000 in
theorem gc_law_wsL_isTold_r11 : GoodIn wsL_law wsL_isTold_r11 := goodIn_r _ [257, 258, 259, 260, 261, 262, 263, 264, 265, 266, 267, 268, 269, 270, 271, 272, 273, 274, 275, 276, 277, 278, 279, 280] (by decide +kernel) (by decide +kernel)
set_option maxRecDepth 20000 in
theorem gc_law_wsL_isTold_r12 : GoodIn wsL_law wsL_isTold_r12 := goodIn_r _ [281, 282, 283, 284, 285, 286, 287, 288, 289, 290, 291, 292, 293, 294, 295, 296, 297, 298, 299, 300, 301, 302, 303, 304] (by decide +kernel) (by decide +kernel)
set_option maxRecDepth 20000 in
theorem gc_law_wsL_isTold_r13 : GoodIn wsL_law wsL_isTold_r13 := goodIn_r _ [305, 306, 307, 308] (by decide +kernel) (by decide +kernel)
set_option maxRecDepth 20000 in
theorem gc_law_isTold_0 : GoodIn wsL_law (wsX10) := goodIn_sub (fun _ h => (List.mem_append_left _ (List.mem_append_left _ (List.mem_append_left _ (List.mem_append_left _ (List.mem_append_left _ (List.mem_append_left _ (List.mem_append_right _ h)))))))) (by decide +kernel)
set_option maxRecDepth 20000 in
theorem gc_law_isTold_1 : GoodIn wsL_law (wsX00) := goodIn_sub (fun _ h => (List.mem_append_left _ (List.mem_append_left _ (List.mem_append_left _ (List.mem_append_left _ (List.mem_append_left _ (List.mem_append_right _ h))))))) (by decide +kernel)
set_option maxRecDepth 20000 in
theorem gc_law_isTold_2 : GoodIn wsL_law ((vx_atS RX1 175 "java/lang/IllegalStateException" ["java/lang/RuntimeException", "java/lang/Exception"]).filter goodWord) := goodIn_sub (fun _ h => (List.mem_append_left _ (List.mem_append_left _ (List.mem_append_left _ (List.mem_append_right _ h))))) (by decide +kernel)
set_option maxRecDepth 20000 in
theorem gc_law_isTold_3 : GoodIn wsL_law ((vx_atS RX1 184 "java/lang/IndexOutOfBoundsException" ["java/lang/RuntimeException", "java/lang/Exception"]).filter goodWord) := goodIn_sub (fun _ h => (List.mem_append_left _ (List.mem_append_left _ (List.mem_append_right _ h)))) (by decide +kernel)
set_option maxRecDepth 20000 in
theorem gc_law_isTold_4 : GoodIn wsL_law ((vx_atS RX1 44 "java/lang/IllegalArgumentException" ["java/lang/RuntimeException", "java/lang/Exception"]).filter goodWord) := goodIn_sub (fun _ h => (List.mem_append_left _ (List.mem_append_right _ h))) (by decide +kernel)
set_option maxRecDepth 20000 in
theorem gc_law_isTold_5 : GoodIn wsL_law (nsW) := goodIn_sub (fun _ h => (List.mem_append_right _ h)) (by decide +kernel)
theorem ggL_law_L_isTold : GoodIn wsL_law wsL_isTold := (goodIn_app (a := [Cond.code yL_isTold cL_isTold 9 (some .boolean)]) (goodIn_r _ [27] (by decide +kernel) (by decide +kernel)) (goodIn_app (goodIn_app (goodIn_app (goodIn_app (goodIn_app (goodIn_app (goodIn_app gc_law_wsL_isTold_r1 (goodIn_app gc_law_wsL_isTold_r2 (goodIn_app gc_law_wsL_isTold_r3 (goodIn_app gc_law_wsL_isTold_r4 (goodIn_app gc_law_wsL_isTold_r5 (goodIn_app gc_law_wsL_isTold_r6 (goodIn_app gc_law_wsL_isTold_r7 (goodIn_app gc_law_wsL_isTold_r8 (goodIn_app gc_law_wsL_isTold_r9 (goodIn_app gc_law_wsL_isTold_r10 (goodIn_app gc_law_wsL_isTold_r11 (goodIn_app gc_law_wsL_isTold_r12 gc_law_wsL_isTold_r13)))))))))))) gc_law_isTold_0) gc_law_isTold_1) gc_law_isTold_2) gc_law_isTold_3) gc_law_isTold_4) gc_law_isTold_5))
set_option maxRecDepth 20000 in
theorem gL_law_L_isTold : GoodIn wsL_law (va_wsS RL 151 yL_isTold wsL_isTold) := goodIn_app (goodIn_of _ (by decide +kernel)) ggL_law_L_isTold
