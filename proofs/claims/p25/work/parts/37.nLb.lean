set_option maxRecDepth 20000 in
theorem ggL_begins_L_low : GoodIn wsL_begins wsL_low := goodIn_r _ [4] (by decide +kernel) (by decide +kernel)
set_option maxRecDepth 20000 in
theorem gL_begins_L_low : GoodIn wsL_begins (va_wsS RL 79 yL_low wsL_low) := goodIn_app (goodIn_of _ (by decide +kernel)) ggL_begins_L_low
set_option maxRecDepth 20000 in
theorem ggL_begins_L_has : GoodIn wsL_begins wsL_has := goodIn_r _ [7] (by decide +kernel) (by decide +kernel)
set_option maxRecDepth 20000 in
theorem gL_begins_L_has : GoodIn wsL_begins (va_wsS RL 60 yL_has wsL_has) := goodIn_app (goodIn_of _ (by decide +kernel)) ggL_begins_L_has
set_option maxRecDepth 20000 in
theorem ggL_begins_L_book : GoodIn wsL_begins wsL_book := goodIn_r _ [10, 11, 12, 3, 13, 14, 15, 16, 5, 6, 7, 17, 18, 19, 20, 21, 22] (by decide +kernel) (by decide +kernel)
set_option maxRecDepth 20000 in
theorem gL_begins_L_book : GoodIn wsL_begins (va_wsS RL 82 yL_book wsL_book) := goodIn_app (goodIn_of _ (by decide +kernel)) ggL_begins_L_book
set_option maxRecDepth 20000 in
theorem ggL_begins_L_start : GoodIn wsL_begins wsL_start := goodIn_ca (goodIn_r _ [25, 26, 27, 28, 29, 30, 31, 32, 33, 34, 35, 36, 37, 38, 39, 40, 41, 42, 43, 44, 45, 46, 47, 48, 49, 50, 51, 52, 53, 54, 55, 56, 57, 58, 59, 60, 61, 62, 63, 64, 65, 66, 67, 68, 69, 70, 71, 72, 73, 74, 75, 76, 77, 78, 79, 80, 81, 82, 83, 84, 85, 86, 87, 88, 89, 90, 91, 92, 93, 94, 95, 96, 97, 98, 99, 100, 101, 102, 103, 104, 105, 106, 107, 108, 109, 110, 111, 112, 113, 114, 115, 116, 117, 118, 119, 120, 121, 122, 123, 124, 125, 126, 127, 128, 129] (by decide +kernel) (by decide +kernel)) (goodIn_sub (fun _ h => List.mem_cons_of_mem _ (List.mem_append_right _ h)) (by decide +kernel))
set_option maxRecDepth 20000 in
theorem gL_begins_L_start : GoodIn wsL_begins (va_wsS RL 86 yL_start wsL_start) := goodIn_app (goodIn_of _ (by decide +kernel)) ggL_begins_L_start
theorem dL_begins_0 : decode cL_begins 0 = .ok (.iconst 4, 1) := by decide +kernel
theorem dL_begins_1 : decode cL_begins 1 = .ok (.iload_n 1, 1) := by decide +kernel
theorem dL_begins_2 : decode cL_begins 2 = .ok (.iconst 5, 1) := by decide +kernel
theorem dL_begins_3 : decode cL_begins 3 = .ok (.invokestatic 79, 3) := by decide +kernel
theorem dL_begins_6 : decode cL_begins 6 = .ok (.iadd, 1) := by decide +kernel
theorem dL_begins_7 : decode cL_begins 7 = .ok (.istore 6, 2) := by decide +kernel
theorem dL_begins_9 : decode cL_begins 9 = .ok (.iconst 1, 1) := by decide +kernel
theorem dL_begins_10 : decode cL_begins 10 = .ok (.iload_n 1, 1) := by decide +kernel
theorem dL_begins_11 : decode cL_begins 11 = .ok (.iconst 3, 1) := by decide +kernel
theorem dL_begins_12 : decode cL_begins 12 = .ok (.ishr, 1) := by decide +kernel
theorem dL_begins_13 : decode cL_begins 13 = .ok (.iload 6, 2) := by decide +kernel
theorem dL_begins_15 : decode cL_begins 15 = .ok (.iconst 1, 1) := by decide +kernel
theorem dL_begins_16 : decode cL_begins 16 = .ok (.isub, 1) := by decide +kernel
theorem dL_begins_17 : decode cL_begins 17 = .ok (.iconst 2, 1) := by decide +kernel
theorem dL_begins_18 : decode cL_begins 18 = .ok (.idiv, 1) := by decide +kernel
theorem dL_begins_19 : decode cL_begins 19 = .ok (.invokestatic 79, 3) := by decide +kernel
theorem dL_begins_22 : decode cL_begins 22 = .ok (.iadd, 1) := by decide +kernel
theorem dL_begins_23 : decode cL_begins 23 = .ok (.istore 7, 2) := by decide +kernel
theorem dL_begins_25 : decode cL_begins 25 = .ok (.iload_n 1, 1) := by decide +kernel
theorem dL_begins_26 : decode cL_begins 26 = .ok (.bipush 6, 2) := by decide +kernel
theorem dL_begins_28 : decode cL_begins 28 = .ok (.ishr, 1) := by decide +kernel
theorem dL_begins_29 : decode cL_begins 29 = .ok (.iload 6, 2) := by decide +kernel
theorem dL_begins_31 : decode cL_begins 31 = .ok (.invokestatic 79, 3) := by decide +kernel
theorem dL_begins_34 : decode cL_begins 34 = .ok (.istore 8, 2) := by decide +kernel
theorem dL_begins_36 : decode cL_begins 36 = .ok (.iconst 0, 1) := by decide +kernel
theorem dL_begins_37 : decode cL_begins 37 = .ok (.istore 9, 2) := by decide +kernel
theorem dL_begins_39 : decode cL_begins 39 = .ok (.iconst 0, 1) := by decide +kernel
theorem dL_begins_40 : decode cL_begins 40 = .ok (.istore 10, 2) := by decide +kernel
theorem dL_begins_42 : decode cL_begins 42 = .ok (.iload 10, 2) := by decide +kernel
theorem dL_begins_44 : decode cL_begins 44 = .ok (.iload 7, 2) := by decide +kernel
theorem dL_begins_46 : decode cL_begins 46 = .ok (.if_icmp .ge 63, 3) := by decide +kernel
theorem dL_begins_49 : decode cL_begins 49 = .ok (.iload 9, 2) := by decide +kernel
theorem dL_begins_51 : decode cL_begins 51 = .ok (.iload 8, 2) := by decide +kernel
theorem dL_begins_53 : decode cL_begins 53 = .ok (.invokestatic 60, 3) := by decide +kernel
theorem dL_begins_56 : decode cL_begins 56 = .ok (.ifCond .eq 15, 3) := by decide +kernel
theorem dL_begins_59 : decode cL_begins 59 = .ok (.iload 8, 2) := by decide +kernel
theorem dL_begins_61 : decode cL_begins 61 = .ok (.iconst 1, 1) := by decide +kernel
theorem dL_begins_62 : decode cL_begins 62 = .ok (.iadd, 1) := by decide +kernel
theorem dL_begins_63 : decode cL_begins 63 = .ok (.iload 6, 2) := by decide +kernel
theorem dL_begins_65 : decode cL_begins 65 = .ok (.irem, 1) := by decide +kernel
theorem dL_begins_66 : decode cL_begins 66 = .ok (.istore 8, 2) := by decide +kernel
theorem dL_begins_68 : decode cL_begins 68 = .ok (.goto (-19), 3) := by decide +kernel
theorem dL_begins_71 : decode cL_begins 71 = .ok (.iload 9, 2) := by decide +kernel
theorem dL_begins_73 : decode cL_begins 73 = .ok (.iconst 1, 1) := by decide +kernel
theorem dL_begins_74 : decode cL_begins 74 = .ok (.iload 8, 2) := by decide +kernel
theorem dL_begins_76 : decode cL_begins 76 = .ok (.ishl, 1) := by decide +kernel
theorem dL_begins_77 : decode cL_begins 77 = .ok (.ior, 1) := by decide +kernel
theorem dL_begins_78 : decode cL_begins 78 = .ok (.istore 9, 2) := by decide +kernel
theorem dL_begins_80 : decode cL_begins 80 = .ok (.iload 8, 2) := by decide +kernel
theorem dL_begins_82 : decode cL_begins 82 = .ok (.iconst 1, 1) := by decide +kernel
theorem dL_begins_83 : decode cL_begins 83 = .ok (.iadd, 1) := by decide +kernel
theorem dL_begins_84 : decode cL_begins 84 = .ok (.iload_n 1, 1) := by decide +kernel
theorem dL_begins_85 : decode cL_begins 85 = .ok (.bipush 9, 2) := by decide +kernel
theorem dL_begins_87 : decode cL_begins 87 = .ok (.iconst 2, 1) := by decide +kernel
theorem dL_begins_88 : decode cL_begins 88 = .ok (.iload 10, 2) := by decide +kernel
theorem dL_begins_90 : decode cL_begins 90 = .ok (.imul, 1) := by decide +kernel
theorem dL_begins_91 : decode cL_begins 91 = .ok (.iadd, 1) := by decide +kernel
theorem dL_begins_92 : decode cL_begins 92 = .ok (.ishr, 1) := by decide +kernel
theorem dL_begins_93 : decode cL_begins 93 = .ok (.iconst 3, 1) := by decide +kernel
theorem dL_begins_94 : decode cL_begins 94 = .ok (.invokestatic 79, 3) := by decide +kernel
theorem dL_begins_97 : decode cL_begins 97 = .ok (.iadd, 1) := by decide +kernel
theorem dL_begins_98 : decode cL_begins 98 = .ok (.iload 6, 2) := by decide +kernel
theorem dL_begins_100 : decode cL_begins 100 = .ok (.irem, 1) := by decide +kernel
theorem dL_begins_101 : decode cL_begins 101 = .ok (.istore 8, 2) := by decide +kernel
theorem dL_begins_103 : decode cL_begins 103 = .ok (.iinc 10 1, 3) := by decide +kernel
theorem dL_begins_106 : decode cL_begins 106 = .ok (.goto (-64), 3) := by decide +kernel
theorem dL_begins_109 : decode cL_begins 109 = .ok (.iload 9, 2) := by decide +kernel
theorem dL_begins_111 : decode cL_begins 111 = .ok (.iload 8, 2) := by decide +kernel
theorem dL_begins_113 : decode cL_begins 113 = .ok (.invokestatic 60, 3) := by decide +kernel
theorem dL_begins_116 : decode cL_begins 116 = .ok (.ifCond .eq 15, 3) := by decide +kernel
theorem dL_begins_119 : decode cL_begins 119 = .ok (.iload 8, 2) := by decide +kernel
theorem dL_begins_121 : decode cL_begins 121 = .ok (.iconst 1, 1) := by decide +kernel
theorem dL_begins_122 : decode cL_begins 122 = .ok (.iadd, 1) := by decide +kernel
theorem dL_begins_123 : decode cL_begins 123 = .ok (.iload 6, 2) := by decide +kernel
theorem dL_begins_125 : decode cL_begins 125 = .ok (.irem, 1) := by decide +kernel
theorem dL_begins_126 : decode cL_begins 126 = .ok (.istore 8, 2) := by decide +kernel
theorem dL_begins_128 : decode cL_begins 128 = .ok (.goto (-19), 3) := by decide +kernel
theorem dL_begins_131 : decode cL_begins 131 = .ok (.iload 8, 2) := by decide +kernel
theorem dL_begins_133 : decode cL_begins 133 = .ok (.istore 10, 2) := by decide +kernel
theorem dL_begins_135 : decode cL_begins 135 = .ok (.iload 8, 2) := by decide +kernel
theorem dL_begins_137 : decode cL_begins 137 = .ok (.iconst 1, 1) := by decide +kernel
theorem dL_begins_138 : decode cL_begins 138 = .ok (.iadd, 1) := by decide +kernel
theorem dL_begins_139 : decode cL_begins 139 = .ok (.iload_n 1, 1) := by decide +kernel
theorem dL_begins_140 : decode cL_begins 140 = .ok (.bipush 20, 2) := by decide +kernel
theorem dL_begins_142 : decode cL_begins 142 = .ok (.ishr, 1) := by decide +kernel
theorem dL_begins_143 : decode cL_begins 143 = .ok (.iconst 3, 1) := by decide +kernel
theorem dL_begins_144 : decode cL_begins 144 = .ok (.invokestatic 79, 3) := by decide +kernel
theorem dL_begins_147 : decode cL_begins 147 = .ok (.iadd, 1) := by decide +kernel
theorem dL_begins_148 : decode cL_begins 148 = .ok (.iload 6, 2) := by decide +kernel
theorem dL_begins_150 : decode cL_begins 150 = .ok (.irem, 1) := by decide +kernel
theorem dL_begins_151 : decode cL_begins 151 = .ok (.istore 8, 2) := by decide +kernel
theorem dL_begins_153 : decode cL_begins 153 = .ok (.iload 9, 2) := by decide +kernel
theorem dL_begins_155 : decode cL_begins 155 = .ok (.iload 8, 2) := by decide +kernel
theorem dL_begins_157 : decode cL_begins 157 = .ok (.invokestatic 60, 3) := by decide +kernel
theorem dL_begins_160 : decode cL_begins 160 = .ok (.ifCond .ne 10, 3) := by decide +kernel
theorem dL_begins_163 : decode cL_begins 163 = .ok (.iload 8, 2) := by decide +kernel
theorem dL_begins_165 : decode cL_begins 165 = .ok (.iload 10, 2) := by decide +kernel
theorem dL_begins_167 : decode cL_begins 167 = .ok (.if_icmp .ne 15, 3) := by decide +kernel
theorem dL_begins_170 : decode cL_begins 170 = .ok (.iload 8, 2) := by decide +kernel
theorem dL_begins_172 : decode cL_begins 172 = .ok (.iconst 1, 1) := by decide +kernel
theorem dL_begins_173 : decode cL_begins 173 = .ok (.iadd, 1) := by decide +kernel
theorem dL_begins_174 : decode cL_begins 174 = .ok (.iload 6, 2) := by decide +kernel
theorem dL_begins_176 : decode cL_begins 176 = .ok (.irem, 1) := by decide +kernel
theorem dL_begins_177 : decode cL_begins 177 = .ok (.istore 8, 2) := by decide +kernel
theorem dL_begins_179 : decode cL_begins 179 = .ok (.goto (-26), 3) := by decide +kernel
theorem dL_begins_182 : decode cL_begins 182 = .ok (.aload_n 2, 1) := by decide +kernel
theorem dL_begins_183 : decode cL_begins 183 = .ok (.iconst 0, 1) := by decide +kernel
theorem dL_begins_184 : decode cL_begins 184 = .ok (.iconst 1, 1) := by decide +kernel
theorem dL_begins_185 : decode cL_begins 185 = .ok (.iastore, 1) := by decide +kernel
theorem dL_begins_186 : decode cL_begins 186 = .ok (.aload_n 2, 1) := by decide +kernel
theorem dL_begins_187 : decode cL_begins 187 = .ok (.iconst 1, 1) := by decide +kernel
theorem dL_begins_188 : decode cL_begins 188 = .ok (.iload 6, 2) := by decide +kernel
theorem dL_begins_190 : decode cL_begins 190 = .ok (.iastore, 1) := by decide +kernel
theorem dL_begins_191 : decode cL_begins 191 = .ok (.aload_n 2, 1) := by decide +kernel
theorem dL_begins_192 : decode cL_begins 192 = .ok (.iconst 2, 1) := by decide +kernel
theorem dL_begins_193 : decode cL_begins 193 = .ok (.iload 9, 2) := by decide +kernel
theorem dL_begins_195 : decode cL_begins 195 = .ok (.iastore, 1) := by decide +kernel
theorem dL_begins_196 : decode cL_begins 196 = .ok (.aload_n 2, 1) := by decide +kernel
theorem dL_begins_197 : decode cL_begins 197 = .ok (.iconst 3, 1) := by decide +kernel
theorem dL_begins_198 : decode cL_begins 198 = .ok (.iload 10, 2) := by decide +kernel
theorem dL_begins_200 : decode cL_begins 200 = .ok (.iastore, 1) := by decide +kernel
theorem dL_begins_201 : decode cL_begins 201 = .ok (.aload_n 2, 1) := by decide +kernel
theorem dL_begins_202 : decode cL_begins 202 = .ok (.iconst 4, 1) := by decide +kernel
theorem dL_begins_203 : decode cL_begins 203 = .ok (.iload 8, 2) := by decide +kernel
theorem dL_begins_205 : decode cL_begins 205 = .ok (.iastore, 1) := by decide +kernel
theorem dL_begins_206 : decode cL_begins 206 = .ok (.aload_n 2, 1) := by decide +kernel
theorem dL_begins_207 : decode cL_begins 207 = .ok (.iconst 5, 1) := by decide +kernel
theorem dL_begins_208 : decode cL_begins 208 = .ok (.iconst 1, 1) := by decide +kernel
theorem dL_begins_209 : decode cL_begins 209 = .ok (.iload 6, 2) := by decide +kernel
theorem dL_begins_211 : decode cL_begins 211 = .ok (.ishl, 1) := by decide +kernel
theorem dL_begins_212 : decode cL_begins 212 = .ok (.iconst 1, 1) := by decide +kernel
theorem dL_begins_213 : decode cL_begins 213 = .ok (.isub, 1) := by decide +kernel
theorem dL_begins_214 : decode cL_begins 214 = .ok (.iastore, 1) := by decide +kernel
theorem dL_begins_215 : decode cL_begins 215 = .ok (.aload_n 2, 1) := by decide +kernel
theorem dL_begins_216 : decode cL_begins 216 = .ok (.bipush 6, 2) := by decide +kernel
theorem dL_begins_218 : decode cL_begins 218 = .ok (.iconst 1, 1) := by decide +kernel
theorem dL_begins_219 : decode cL_begins 219 = .ok (.iastore, 1) := by decide +kernel
theorem dL_begins_220 : decode cL_begins 220 = .ok (.aload_n 2, 1) := by decide +kernel
theorem dL_begins_221 : decode cL_begins 221 = .ok (.bipush 7, 2) := by decide +kernel
theorem dL_begins_223 : decode cL_begins 223 = .ok (.iconst 0, 1) := by decide +kernel
theorem dL_begins_224 : decode cL_begins 224 = .ok (.iastore, 1) := by decide +kernel
theorem dL_begins_225 : decode cL_begins 225 = .ok (.aload_n 2, 1) := by decide +kernel
theorem dL_begins_226 : decode cL_begins 226 = .ok (.bipush 8, 2) := by decide +kernel
theorem dL_begins_228 : decode cL_begins 228 = .ok (.iconst 0, 1) := by decide +kernel
theorem dL_begins_229 : decode cL_begins 229 = .ok (.iastore, 1) := by decide +kernel
theorem dL_begins_230 : decode cL_begins 230 = .ok (.bipush 9, 2) := by decide +kernel
theorem dL_begins_232 : decode cL_begins 232 = .ok (.istore 11, 2) := by decide +kernel
theorem dL_begins_234 : decode cL_begins 234 = .ok (.iload 11, 2) := by decide +kernel
theorem dL_begins_236 : decode cL_begins 236 = .ok (.bipush 13, 2) := by decide +kernel
theorem dL_begins_238 : decode cL_begins 238 = .ok (.if_icmp .ge 14, 3) := by decide +kernel
theorem dL_begins_241 : decode cL_begins 241 = .ok (.aload_n 2, 1) := by decide +kernel
theorem dL_begins_242 : decode cL_begins 242 = .ok (.iload 11, 2) := by decide +kernel
theorem dL_begins_244 : decode cL_begins 244 = .ok (.iconst (-1), 1) := by decide +kernel
theorem dL_begins_245 : decode cL_begins 245 = .ok (.iastore, 1) := by decide +kernel
theorem dL_begins_246 : decode cL_begins 246 = .ok (.iinc 11 1, 3) := by decide +kernel
theorem dL_begins_249 : decode cL_begins 249 = .ok (.goto (-15), 3) := by decide +kernel
theorem dL_begins_252 : decode cL_begins 252 = .ok (.iconst 0, 1) := by decide +kernel
theorem dL_begins_253 : decode cL_begins 253 = .ok (.istore 11, 2) := by decide +kernel
theorem dL_begins_255 : decode cL_begins 255 = .ok (.iload 11, 2) := by decide +kernel
theorem dL_begins_257 : decode cL_begins 257 = .ok (.bipush 8, 2) := by decide +kernel
theorem dL_begins_259 : decode cL_begins 259 = .ok (.if_icmp .ge 14, 3) := by decide +kernel
theorem dL_begins_262 : decode cL_begins 262 = .ok (.aload_n 3, 1) := by decide +kernel
theorem dL_begins_263 : decode cL_begins 263 = .ok (.iload 11, 2) := by decide +kernel
theorem dL_begins_265 : decode cL_begins 265 = .ok (.iconst (-1), 1) := by decide +kernel
theorem dL_begins_266 : decode cL_begins 266 = .ok (.iastore, 1) := by decide +kernel
theorem dL_begins_267 : decode cL_begins 267 = .ok (.iinc 11 1, 3) := by decide +kernel
theorem dL_begins_270 : decode cL_begins 270 = .ok (.goto (-15), 3) := by decide +kernel
theorem dL_begins_273 : decode cL_begins 273 = .ok (.aload_n 2, 1) := by decide +kernel
theorem dL_begins_274 : decode cL_begins 274 = .ok (.aload 4, 2) := by decide +kernel
theorem dL_begins_276 : decode cL_begins 276 = .ok (.aload 5, 2) := by decide +kernel
theorem dL_begins_278 : decode cL_begins 278 = .ok (.iconst (-1), 1) := by decide +kernel
theorem dL_begins_279 : decode cL_begins 279 = .ok (.invokestatic 82, 3) := by decide +kernel
theorem dL_begins_282 : decode cL_begins 282 = .ok (.aload_n 0, 1) := by decide +kernel
theorem dL_begins_283 : decode cL_begins 283 = .ok (.iload 6, 2) := by decide +kernel
theorem dL_begins_285 : decode cL_begins 285 = .ok (.iload 9, 2) := by decide +kernel
theorem dL_begins_287 : decode cL_begins 287 = .ok (.iload 10, 2) := by decide +kernel
theorem dL_begins_289 : decode cL_begins 289 = .ok (.iload 10, 2) := by decide +kernel
theorem dL_begins_291 : decode cL_begins 291 = .ok (.invokestatic 86, 3) := by decide +kernel
theorem dL_begins_294 : decode cL_begins 294 = .ok (.bipush (-73), 2) := by decide +kernel
theorem dL_begins_296 : decode cL_begins 296 = .ok (.if_icmp .ne 137, 3) := by decide +kernel
theorem dL_begins_299 : decode cL_begins 299 = .ok (.aload_n 0, 1) := by decide +kernel
theorem dL_begins_300 : decode cL_begins 300 = .ok (.iload 6, 2) := by decide +kernel
theorem dL_begins_302 : decode cL_begins 302 = .ok (.iload 9, 2) := by decide +kernel
theorem dL_begins_304 : decode cL_begins 304 = .ok (.iconst 1, 1) := by decide +kernel
theorem dL_begins_305 : decode cL_begins 305 = .ok (.iload 6, 2) := by decide +kernel
theorem dL_begins_307 : decode cL_begins 307 = .ok (.ishl, 1) := by decide +kernel
theorem dL_begins_308 : decode cL_begins 308 = .ok (.ior, 1) := by decide +kernel
theorem dL_begins_309 : decode cL_begins 309 = .ok (.iload 10, 2) := by decide +kernel
theorem dL_begins_311 : decode cL_begins 311 = .ok (.iload 8, 2) := by decide +kernel
theorem dL_begins_313 : decode cL_begins 313 = .ok (.invokestatic 86, 3) := by decide +kernel
theorem dL_begins_316 : decode cL_begins 316 = .ok (.bipush (-73), 2) := by decide +kernel
theorem dL_begins_318 : decode cL_begins 318 = .ok (.if_icmp .ne 115, 3) := by decide +kernel
theorem dL_begins_321 : decode cL_begins 321 = .ok (.aload_n 0, 1) := by decide +kernel
theorem dL_begins_322 : decode cL_begins 322 = .ok (.iload 6, 2) := by decide +kernel
theorem dL_begins_324 : decode cL_begins 324 = .ok (.iconst 0, 1) := by decide +kernel
theorem dL_begins_325 : decode cL_begins 325 = .ok (.iload 10, 2) := by decide +kernel
theorem dL_begins_327 : decode cL_begins 327 = .ok (.iload 8, 2) := by decide +kernel
theorem dL_begins_329 : decode cL_begins 329 = .ok (.invokestatic 86, 3) := by decide +kernel
theorem dL_begins_332 : decode cL_begins 332 = .ok (.bipush (-73), 2) := by decide +kernel
theorem dL_begins_334 : decode cL_begins 334 = .ok (.if_icmp .ne 99, 3) := by decide +kernel
theorem dL_begins_337 : decode cL_begins 337 = .ok (.aload_n 0, 1) := by decide +kernel
theorem dL_begins_338 : decode cL_begins 338 = .ok (.bipush 9, 2) := by decide +kernel
theorem dL_begins_340 : decode cL_begins 340 = .ok (.iconst 1, 1) := by decide +kernel
theorem dL_begins_341 : decode cL_begins 341 = .ok (.iconst 2, 1) := by decide +kernel
theorem dL_begins_342 : decode cL_begins 342 = .ok (.iconst 3, 1) := by decide +kernel
theorem dL_begins_343 : decode cL_begins 343 = .ok (.invokestatic 86, 3) := by decide +kernel
theorem dL_begins_346 : decode cL_begins 346 = .ok (.bipush (-73), 2) := by decide +kernel
theorem dL_begins_348 : decode cL_begins 348 = .ok (.if_icmp .ne 85, 3) := by decide +kernel
theorem dL_begins_351 : decode cL_begins 351 = .ok (.aload_n 0, 1) := by decide +kernel
theorem dL_begins_352 : decode cL_begins 352 = .ok (.iconst 3, 1) := by decide +kernel
theorem dL_begins_353 : decode cL_begins 353 = .ok (.iconst 1, 1) := by decide +kernel
theorem dL_begins_354 : decode cL_begins 354 = .ok (.iconst 1, 1) := by decide +kernel
theorem dL_begins_355 : decode cL_begins 355 = .ok (.iconst 2, 1) := by decide +kernel
theorem dL_begins_356 : decode cL_begins 356 = .ok (.invokestatic 86, 3) := by decide +kernel
theorem dL_begins_359 : decode cL_begins 359 = .ok (.bipush (-73), 2) := by decide +kernel
theorem dL_begins_361 : decode cL_begins 361 = .ok (.if_icmp .ne 72, 3) := by decide +kernel
theorem dL_begins_364 : decode cL_begins 364 = .ok (.aload_n 0, 1) := by decide +kernel
theorem dL_begins_365 : decode cL_begins 365 = .ok (.iconst 4, 1) := by decide +kernel
theorem dL_begins_366 : decode cL_begins 366 = .ok (.iconst 3, 1) := by decide +kernel
theorem dL_begins_367 : decode cL_begins 367 = .ok (.iconst 2, 1) := by decide +kernel
theorem dL_begins_368 : decode cL_begins 368 = .ok (.iconst 3, 1) := by decide +kernel
theorem dL_begins_369 : decode cL_begins 369 = .ok (.invokestatic 86, 3) := by decide +kernel
theorem dL_begins_372 : decode cL_begins 372 = .ok (.bipush (-73), 2) := by decide +kernel
theorem dL_begins_374 : decode cL_begins 374 = .ok (.if_icmp .ne 59, 3) := by decide +kernel
theorem dL_begins_377 : decode cL_begins 377 = .ok (.aload_n 0, 1) := by decide +kernel
theorem dL_begins_378 : decode cL_begins 378 = .ok (.iload 6, 2) := by decide +kernel
theorem dL_begins_380 : decode cL_begins 380 = .ok (.iload 9, 2) := by decide +kernel
theorem dL_begins_382 : decode cL_begins 382 = .ok (.iload 6, 2) := by decide +kernel
theorem dL_begins_384 : decode cL_begins 384 = .ok (.iload 8, 2) := by decide +kernel
theorem dL_begins_386 : decode cL_begins 386 = .ok (.invokestatic 86, 3) := by decide +kernel
theorem dL_begins_389 : decode cL_begins 389 = .ok (.bipush (-73), 2) := by decide +kernel
theorem dL_begins_391 : decode cL_begins 391 = .ok (.if_icmp .ne 42, 3) := by decide +kernel
theorem dL_begins_394 : decode cL_begins 394 = .ok (.aload_n 0, 1) := by decide +kernel
theorem dL_begins_395 : decode cL_begins 395 = .ok (.iload 6, 2) := by decide +kernel
theorem dL_begins_397 : decode cL_begins 397 = .ok (.iconst (-1), 1) := by decide +kernel
theorem dL_begins_398 : decode cL_begins 398 = .ok (.iload 10, 2) := by decide +kernel
theorem dL_begins_400 : decode cL_begins 400 = .ok (.iload 8, 2) := by decide +kernel
theorem dL_begins_402 : decode cL_begins 402 = .ok (.invokestatic 86, 3) := by decide +kernel
theorem dL_begins_405 : decode cL_begins 405 = .ok (.bipush (-73), 2) := by decide +kernel
theorem dL_begins_407 : decode cL_begins 407 = .ok (.if_icmp .ne 26, 3) := by decide +kernel
theorem dL_begins_410 : decode cL_begins 410 = .ok (.aload_n 0, 1) := by decide +kernel
theorem dL_begins_411 : decode cL_begins 411 = .ok (.iload 6, 2) := by decide +kernel
theorem dL_begins_413 : decode cL_begins 413 = .ok (.iload 9, 2) := by decide +kernel
theorem dL_begins_415 : decode cL_begins 415 = .ok (.iload 10, 2) := by decide +kernel
theorem dL_begins_417 : decode cL_begins 417 = .ok (.iload 8, 2) := by decide +kernel
theorem dL_begins_419 : decode cL_begins 419 = .ok (.invokestatic 86, 3) := by decide +kernel
theorem dL_begins_422 : decode cL_begins 422 = .ok (.aload 5, 2) := by decide +kernel
theorem dL_begins_424 : decode cL_begins 424 = .ok (.iconst 0, 1) := by decide +kernel
theorem dL_begins_425 : decode cL_begins 425 = .ok (.iaload, 1) := by decide +kernel
theorem dL_begins_426 : decode cL_begins 426 = .ok (.if_icmp .ne 7, 3) := by decide +kernel
theorem dL_begins_429 : decode cL_begins 429 = .ok (.iconst 1, 1) := by decide +kernel
theorem dL_begins_430 : decode cL_begins 430 = .ok (.goto 4, 3) := by decide +kernel
theorem dL_begins_433 : decode cL_begins 433 = .ok (.iconst 0, 1) := by decide +kernel
theorem dL_begins_434 : decode cL_begins 434 = .ok (.ireturn, 1) := by decide +kernel
