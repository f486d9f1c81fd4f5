set_option maxRecDepth 20000 in
theorem ggL_agrees_L_many : GoodIn wsL_agrees wsL_many := goodIn_r _ [4] (by decide +kernel) (by decide +kernel)
set_option maxRecDepth 20000 in
theorem gL_agrees_L_many : GoodIn wsL_agrees (va_wsS RL 66 yL_many wsL_many) := goodIn_app (goodIn_of _ (by decide +kernel)) ggL_agrees_L_many
set_option maxRecDepth 20000 in
theorem ggL_agrees_L_has : GoodIn wsL_agrees wsL_has := goodIn_r _ [7] (by decide +kernel) (by decide +kernel)
set_option maxRecDepth 20000 in
theorem gL_agrees_L_has : GoodIn wsL_agrees (va_wsS RL 60 yL_has wsL_has) := goodIn_app (goodIn_of _ (by decide +kernel)) ggL_agrees_L_has
set_option maxRecDepth 20000 in
theorem ggL_agrees_L_isTrue : GoodIn wsL_agrees wsL_isTrue := goodIn_r _ [10, 5, 6, 3, 7] (by decide +kernel) (by decide +kernel)
set_option maxRecDepth 20000 in
theorem gL_agrees_L_isTrue : GoodIn wsL_agrees (va_wsS RL 69 yL_isTrue wsL_isTrue) := goodIn_app (goodIn_of _ (by decide +kernel)) ggL_agrees_L_isTrue
set_option maxRecDepth 20000 in
theorem ggL_agrees_L_role : GoodIn wsL_agrees wsL_role := goodIn_r _ [13, 5, 6, 3, 7] (by decide +kernel) (by decide +kernel)
set_option maxRecDepth 20000 in
theorem gL_agrees_L_role : GoodIn wsL_agrees (va_wsS RL 72 yL_role wsL_role) := goodIn_app (goodIn_of _ (by decide +kernel)) ggL_agrees_L_role
theorem dL_agrees_0 : decode cL_agrees 0 = .ok (.iload_n 3, 1) := by decide +kernel
theorem dL_agrees_1 : decode cL_agrees 1 = .ok (.invokestatic 66, 3) := by decide +kernel
theorem dL_agrees_4 : decode cL_agrees 4 = .ok (.aload_n 0, 1) := by decide +kernel
theorem dL_agrees_5 : decode cL_agrees 5 = .ok (.iconst 2, 1) := by decide +kernel
theorem dL_agrees_6 : decode cL_agrees 6 = .ok (.iaload, 1) := by decide +kernel
theorem dL_agrees_7 : decode cL_agrees 7 = .ok (.invokestatic 66, 3) := by decide +kernel
theorem dL_agrees_10 : decode cL_agrees 10 = .ok (.if_icmp .ne 28, 3) := by decide +kernel
theorem dL_agrees_13 : decode cL_agrees 13 = .ok (.iload 4, 2) := by decide +kernel
theorem dL_agrees_15 : decode cL_agrees 15 = .ok (.iload 5, 2) := by decide +kernel
theorem dL_agrees_17 : decode cL_agrees 17 = .ok (.if_icmp .eq 21, 3) := by decide +kernel
theorem dL_agrees_20 : decode cL_agrees 20 = .ok (.iload_n 3, 1) := by decide +kernel
theorem dL_agrees_21 : decode cL_agrees 21 = .ok (.iload 4, 2) := by decide +kernel
theorem dL_agrees_23 : decode cL_agrees 23 = .ok (.invokestatic 60, 3) := by decide +kernel
theorem dL_agrees_26 : decode cL_agrees 26 = .ok (.ifCond .ne 12, 3) := by decide +kernel
theorem dL_agrees_29 : decode cL_agrees 29 = .ok (.iload_n 3, 1) := by decide +kernel
theorem dL_agrees_30 : decode cL_agrees 30 = .ok (.iload 5, 2) := by decide +kernel
theorem dL_agrees_32 : decode cL_agrees 32 = .ok (.invokestatic 60, 3) := by decide +kernel
theorem dL_agrees_35 : decode cL_agrees 35 = .ok (.ifCond .eq 5, 3) := by decide +kernel
theorem dL_agrees_38 : decode cL_agrees 38 = .ok (.iconst 0, 1) := by decide +kernel
theorem dL_agrees_39 : decode cL_agrees 39 = .ok (.ireturn, 1) := by decide +kernel
theorem dL_agrees_40 : decode cL_agrees 40 = .ok (.iconst 0, 1) := by decide +kernel
theorem dL_agrees_41 : decode cL_agrees 41 = .ok (.istore 6, 2) := by decide +kernel
theorem dL_agrees_43 : decode cL_agrees 43 = .ok (.iload 6, 2) := by decide +kernel
theorem dL_agrees_45 : decode cL_agrees 45 = .ok (.aload_n 0, 1) := by decide +kernel
theorem dL_agrees_46 : decode cL_agrees 46 = .ok (.bipush 8, 2) := by decide +kernel
theorem dL_agrees_48 : decode cL_agrees 48 = .ok (.iaload, 1) := by decide +kernel
theorem dL_agrees_49 : decode cL_agrees 49 = .ok (.if_icmp .ge 40, 3) := by decide +kernel
theorem dL_agrees_52 : decode cL_agrees 52 = .ok (.iload_n 3, 1) := by decide +kernel
theorem dL_agrees_53 : decode cL_agrees 53 = .ok (.aload_n 1, 1) := by decide +kernel
theorem dL_agrees_54 : decode cL_agrees 54 = .ok (.iload 6, 2) := by decide +kernel
theorem dL_agrees_56 : decode cL_agrees 56 = .ok (.iaload, 1) := by decide +kernel
theorem dL_agrees_57 : decode cL_agrees 57 = .ok (.bipush 8, 2) := by decide +kernel
theorem dL_agrees_59 : decode cL_agrees 59 = .ok (.irem, 1) := by decide +kernel
theorem dL_agrees_60 : decode cL_agrees 60 = .ok (.invokestatic 60, 3) := by decide +kernel
theorem dL_agrees_63 : decode cL_agrees 63 = .ok (.ifCond .ne 20, 3) := by decide +kernel
theorem dL_agrees_66 : decode cL_agrees 66 = .ok (.aload_n 1, 1) := by decide +kernel
theorem dL_agrees_67 : decode cL_agrees 67 = .ok (.iload 6, 2) := by decide +kernel
theorem dL_agrees_69 : decode cL_agrees 69 = .ok (.iaload, 1) := by decide +kernel
theorem dL_agrees_70 : decode cL_agrees 70 = .ok (.iload_n 3, 1) := by decide +kernel
theorem dL_agrees_71 : decode cL_agrees 71 = .ok (.iload 4, 2) := by decide +kernel
theorem dL_agrees_73 : decode cL_agrees 73 = .ok (.iload 5, 2) := by decide +kernel
theorem dL_agrees_75 : decode cL_agrees 75 = .ok (.invokestatic 69, 3) := by decide +kernel
theorem dL_agrees_78 : decode cL_agrees 78 = .ok (.ifCond .ne 5, 3) := by decide +kernel
theorem dL_agrees_81 : decode cL_agrees 81 = .ok (.iconst 0, 1) := by decide +kernel
theorem dL_agrees_82 : decode cL_agrees 82 = .ok (.ireturn, 1) := by decide +kernel
theorem dL_agrees_83 : decode cL_agrees 83 = .ok (.iinc 6 1, 3) := by decide +kernel
theorem dL_agrees_86 : decode cL_agrees 86 = .ok (.goto (-43), 3) := by decide +kernel
theorem dL_agrees_89 : decode cL_agrees 89 = .ok (.iconst 0, 1) := by decide +kernel
theorem dL_agrees_90 : decode cL_agrees 90 = .ok (.istore 6, 2) := by decide +kernel
theorem dL_agrees_92 : decode cL_agrees 92 = .ok (.iload 6, 2) := by decide +kernel
theorem dL_agrees_94 : decode cL_agrees 94 = .ok (.aload_n 0, 1) := by decide +kernel
theorem dL_agrees_95 : decode cL_agrees 95 = .ok (.iconst 1, 1) := by decide +kernel
theorem dL_agrees_96 : decode cL_agrees 96 = .ok (.iaload, 1) := by decide +kernel
theorem dL_agrees_97 : decode cL_agrees 97 = .ok (.if_icmp .ge 49, 3) := by decide +kernel
theorem dL_agrees_100 : decode cL_agrees 100 = .ok (.aload_n 0, 1) := by decide +kernel
theorem dL_agrees_101 : decode cL_agrees 101 = .ok (.iconst 5, 1) := by decide +kernel
theorem dL_agrees_102 : decode cL_agrees 102 = .ok (.iaload, 1) := by decide +kernel
theorem dL_agrees_103 : decode cL_agrees 103 = .ok (.iload 6, 2) := by decide +kernel
theorem dL_agrees_105 : decode cL_agrees 105 = .ok (.invokestatic 60, 3) := by decide +kernel
theorem dL_agrees_108 : decode cL_agrees 108 = .ok (.ifCond .ne 32, 3) := by decide +kernel
theorem dL_agrees_111 : decode cL_agrees 111 = .ok (.iload_n 3, 1) := by decide +kernel
theorem dL_agrees_112 : decode cL_agrees 112 = .ok (.iload 4, 2) := by decide +kernel
theorem dL_agrees_114 : decode cL_agrees 114 = .ok (.iload 5, 2) := by decide +kernel
theorem dL_agrees_116 : decode cL_agrees 116 = .ok (.iload 6, 2) := by decide +kernel
theorem dL_agrees_118 : decode cL_agrees 118 = .ok (.invokestatic 72, 3) := by decide +kernel
theorem dL_agrees_121 : decode cL_agrees 121 = .ok (.aload_n 0, 1) := by decide +kernel
theorem dL_agrees_122 : decode cL_agrees 122 = .ok (.iconst 2, 1) := by decide +kernel
theorem dL_agrees_123 : decode cL_agrees 123 = .ok (.iaload, 1) := by decide +kernel
theorem dL_agrees_124 : decode cL_agrees 124 = .ok (.aload_n 0, 1) := by decide +kernel
theorem dL_agrees_125 : decode cL_agrees 125 = .ok (.iconst 3, 1) := by decide +kernel
theorem dL_agrees_126 : decode cL_agrees 126 = .ok (.iaload, 1) := by decide +kernel
theorem dL_agrees_127 : decode cL_agrees 127 = .ok (.aload_n 0, 1) := by decide +kernel
theorem dL_agrees_128 : decode cL_agrees 128 = .ok (.iconst 4, 1) := by decide +kernel
theorem dL_agrees_129 : decode cL_agrees 129 = .ok (.iaload, 1) := by decide +kernel
theorem dL_agrees_130 : decode cL_agrees 130 = .ok (.iload 6, 2) := by decide +kernel
theorem dL_agrees_132 : decode cL_agrees 132 = .ok (.invokestatic 72, 3) := by decide +kernel
theorem dL_agrees_135 : decode cL_agrees 135 = .ok (.if_icmp .eq 5, 3) := by decide +kernel
theorem dL_agrees_138 : decode cL_agrees 138 = .ok (.iconst 0, 1) := by decide +kernel
theorem dL_agrees_139 : decode cL_agrees 139 = .ok (.ireturn, 1) := by decide +kernel
theorem dL_agrees_140 : decode cL_agrees 140 = .ok (.iinc 6 1, 3) := by decide +kernel
theorem dL_agrees_143 : decode cL_agrees 143 = .ok (.goto (-51), 3) := by decide +kernel
theorem dL_agrees_146 : decode cL_agrees 146 = .ok (.iload_n 2, 1) := by decide +kernel
theorem dL_agrees_147 : decode cL_agrees 147 = .ok (.ifCond .ge 5, 3) := by decide +kernel
theorem dL_agrees_150 : decode cL_agrees 150 = .ok (.iconst 1, 1) := by decide +kernel
theorem dL_agrees_151 : decode cL_agrees 151 = .ok (.ireturn, 1) := by decide +kernel
theorem dL_agrees_152 : decode cL_agrees 152 = .ok (.iload_n 3, 1) := by decide +kernel
theorem dL_agrees_153 : decode cL_agrees 153 = .ok (.iload 4, 2) := by decide +kernel
theorem dL_agrees_155 : decode cL_agrees 155 = .ok (.iload 5, 2) := by decide +kernel
theorem dL_agrees_157 : decode cL_agrees 157 = .ok (.iload_n 2, 1) := by decide +kernel
theorem dL_agrees_158 : decode cL_agrees 158 = .ok (.invokestatic 72, 3) := by decide +kernel
theorem dL_agrees_161 : decode cL_agrees 161 = .ok (.aload_n 0, 1) := by decide +kernel
theorem dL_agrees_162 : decode cL_agrees 162 = .ok (.iconst 2, 1) := by decide +kernel
theorem dL_agrees_163 : decode cL_agrees 163 = .ok (.iaload, 1) := by decide +kernel
theorem dL_agrees_164 : decode cL_agrees 164 = .ok (.aload_n 0, 1) := by decide +kernel
theorem dL_agrees_165 : decode cL_agrees 165 = .ok (.iconst 3, 1) := by decide +kernel
theorem dL_agrees_166 : decode cL_agrees 166 = .ok (.iaload, 1) := by decide +kernel
theorem dL_agrees_167 : decode cL_agrees 167 = .ok (.aload_n 0, 1) := by decide +kernel
theorem dL_agrees_168 : decode cL_agrees 168 = .ok (.iconst 4, 1) := by decide +kernel
theorem dL_agrees_169 : decode cL_agrees 169 = .ok (.iaload, 1) := by decide +kernel
theorem dL_agrees_170 : decode cL_agrees 170 = .ok (.iload_n 2, 1) := by decide +kernel
theorem dL_agrees_171 : decode cL_agrees 171 = .ok (.invokestatic 72, 3) := by decide +kernel
theorem dL_agrees_174 : decode cL_agrees 174 = .ok (.if_icmp .eq 5, 3) := by decide +kernel
theorem dL_agrees_177 : decode cL_agrees 177 = .ok (.iconst 0, 1) := by decide +kernel
theorem dL_agrees_178 : decode cL_agrees 178 = .ok (.ireturn, 1) := by decide +kernel
theorem dL_agrees_179 : decode cL_agrees 179 = .ok (.aload_n 0, 1) := by decide +kernel
theorem dL_agrees_180 : decode cL_agrees 180 = .ok (.iconst 2, 1) := by decide +kernel
theorem dL_agrees_181 : decode cL_agrees 181 = .ok (.iaload, 1) := by decide +kernel
theorem dL_agrees_182 : decode cL_agrees 182 = .ok (.iload_n 2, 1) := by decide +kernel
theorem dL_agrees_183 : decode cL_agrees 183 = .ok (.invokestatic 60, 3) := by decide +kernel
theorem dL_agrees_186 : decode cL_agrees 186 = .ok (.ifCond .eq 18, 3) := by decide +kernel
theorem dL_agrees_189 : decode cL_agrees 189 = .ok (.iload_n 3, 1) := by decide +kernel
theorem dL_agrees_190 : decode cL_agrees 190 = .ok (.aload_n 0, 1) := by decide +kernel
theorem dL_agrees_191 : decode cL_agrees 191 = .ok (.iconst 2, 1) := by decide +kernel
theorem dL_agrees_192 : decode cL_agrees 192 = .ok (.iaload, 1) := by decide +kernel
theorem dL_agrees_193 : decode cL_agrees 193 = .ok (.if_icmp .ne 7, 3) := by decide +kernel
theorem dL_agrees_196 : decode cL_agrees 196 = .ok (.iconst 1, 1) := by decide +kernel
theorem dL_agrees_197 : decode cL_agrees 197 = .ok (.goto 32, 3) := by decide +kernel
theorem dL_agrees_200 : decode cL_agrees 200 = .ok (.iconst 0, 1) := by decide +kernel
theorem dL_agrees_201 : decode cL_agrees 201 = .ok (.goto 28, 3) := by decide +kernel
theorem dL_agrees_204 : decode cL_agrees 204 = .ok (.iload_n 2, 1) := by decide +kernel
theorem dL_agrees_205 : decode cL_agrees 205 = .ok (.aload_n 0, 1) := by decide +kernel
theorem dL_agrees_206 : decode cL_agrees 206 = .ok (.iconst 3, 1) := by decide +kernel
theorem dL_agrees_207 : decode cL_agrees 207 = .ok (.iaload, 1) := by decide +kernel
theorem dL_agrees_208 : decode cL_agrees 208 = .ok (.if_icmp .ne 16, 3) := by decide +kernel
theorem dL_agrees_211 : decode cL_agrees 211 = .ok (.iload_n 3, 1) := by decide +kernel
theorem dL_agrees_212 : decode cL_agrees 212 = .ok (.aload_n 0, 1) := by decide +kernel
theorem dL_agrees_213 : decode cL_agrees 213 = .ok (.iconst 2, 1) := by decide +kernel
theorem dL_agrees_214 : decode cL_agrees 214 = .ok (.iaload, 1) := by decide +kernel
theorem dL_agrees_215 : decode cL_agrees 215 = .ok (.ixor, 1) := by decide +kernel
theorem dL_agrees_216 : decode cL_agrees 216 = .ok (.aload_n 0, 1) := by decide +kernel
theorem dL_agrees_217 : decode cL_agrees 217 = .ok (.bipush 7, 2) := by decide +kernel
theorem dL_agrees_219 : decode cL_agrees 219 = .ok (.iaload, 1) := by decide +kernel
theorem dL_agrees_220 : decode cL_agrees 220 = .ok (.iand, 1) := by decide +kernel
theorem dL_agrees_221 : decode cL_agrees 221 = .ok (.ifCond .ne 7, 3) := by decide +kernel
theorem dL_agrees_224 : decode cL_agrees 224 = .ok (.iconst 1, 1) := by decide +kernel
theorem dL_agrees_225 : decode cL_agrees 225 = .ok (.goto 4, 3) := by decide +kernel
theorem dL_agrees_228 : decode cL_agrees 228 = .ok (.iconst 0, 1) := by decide +kernel
theorem dL_agrees_229 : decode cL_agrees 229 = .ok (.ireturn, 1) := by decide +kernel
set_option maxRecDepth 20000 in
theorem ggL_book_L_agrees : GoodIn wsL_book wsL_agrees := goodIn_r _ [4, 5, 6, 3, 7, 8, 9, 10, 11, 12, 13, 14, 15, 16] (by decide +kernel) (by decide +kernel)
set_option maxRecDepth 20000 in
theorem gL_book_L_agrees : GoodIn wsL_book (va_wsS RL 75 yL_agrees wsL_agrees) := goodIn_app (goodIn_of _ (by decide +kernel)) ggL_book_L_agrees
set_option maxRecDepth 20000 in
theorem ggL_book_L_role : GoodIn wsL_book wsL_role := goodIn_r _ [16, 8, 9, 3, 10] (by decide +kernel) (by decide +kernel)
set_option maxRecDepth 20000 in
theorem gL_book_L_role : GoodIn wsL_book (va_wsS RL 72 yL_role wsL_role) := goodIn_app (goodIn_of _ (by decide +kernel)) ggL_book_L_role
theorem dL_book_0 : decode cL_book 0 = .ok (.iconst 0, 1) := by decide +kernel
theorem dL_book_1 : decode cL_book 1 = .ok (.istore 4, 2) := by decide +kernel
theorem dL_book_3 : decode cL_book 3 = .ok (.iload 4, 2) := by decide +kernel
theorem dL_book_5 : decode cL_book 5 = .ok (.bipush 40, 2) := by decide +kernel
theorem dL_book_7 : decode cL_book 7 = .ok (.if_icmp .ge 14, 3) := by decide +kernel
theorem dL_book_10 : decode cL_book 10 = .ok (.aload_n 2, 1) := by decide +kernel
theorem dL_book_11 : decode cL_book 11 = .ok (.iload 4, 2) := by decide +kernel
theorem dL_book_13 : decode cL_book 13 = .ok (.iconst 0, 1) := by decide +kernel
theorem dL_book_14 : decode cL_book 14 = .ok (.iastore, 1) := by decide +kernel
theorem dL_book_15 : decode cL_book 15 = .ok (.iinc 4 1, 3) := by decide +kernel
theorem dL_book_18 : decode cL_book 18 = .ok (.goto (-15), 3) := by decide +kernel
theorem dL_book_21 : decode cL_book 21 = .ok (.aload_n 2, 1) := by decide +kernel
theorem dL_book_22 : decode cL_book 22 = .ok (.iconst 2, 1) := by decide +kernel
theorem dL_book_23 : decode cL_book 23 = .ok (.iconst 1, 1) := by decide +kernel
theorem dL_book_24 : decode cL_book 24 = .ok (.aload_n 0, 1) := by decide +kernel
theorem dL_book_25 : decode cL_book 25 = .ok (.iconst 1, 1) := by decide +kernel
theorem dL_book_26 : decode cL_book 26 = .ok (.iaload, 1) := by decide +kernel
theorem dL_book_27 : decode cL_book 27 = .ok (.ishl, 1) := by decide +kernel
theorem dL_book_28 : decode cL_book 28 = .ok (.iconst 1, 1) := by decide +kernel
theorem dL_book_29 : decode cL_book 29 = .ok (.isub, 1) := by decide +kernel
theorem dL_book_30 : decode cL_book 30 = .ok (.iastore, 1) := by decide +kernel
theorem dL_book_31 : decode cL_book 31 = .ok (.iconst 0, 1) := by decide +kernel
theorem dL_book_32 : decode cL_book 32 = .ok (.istore 4, 2) := by decide +kernel
theorem dL_book_34 : decode cL_book 34 = .ok (.iload 4, 2) := by decide +kernel
theorem dL_book_36 : decode cL_book 36 = .ok (.iconst 1, 1) := by decide +kernel
theorem dL_book_37 : decode cL_book 37 = .ok (.aload_n 0, 1) := by decide +kernel
theorem dL_book_38 : decode cL_book 38 = .ok (.iconst 1, 1) := by decide +kernel
theorem dL_book_39 : decode cL_book 39 = .ok (.iaload, 1) := by decide +kernel
theorem dL_book_40 : decode cL_book 40 = .ok (.ishl, 1) := by decide +kernel
theorem dL_book_41 : decode cL_book 41 = .ok (.if_icmp .ge 150, 3) := by decide +kernel
theorem dL_book_44 : decode cL_book 44 = .ok (.aload_n 2, 1) := by decide +kernel
theorem dL_book_45 : decode cL_book 45 = .ok (.iconst 0, 1) := by decide +kernel
theorem dL_book_46 : decode cL_book 46 = .ok (.iaload, 1) := by decide +kernel
theorem dL_book_47 : decode cL_book 47 = .ok (.istore 5, 2) := by decide +kernel
theorem dL_book_49 : decode cL_book 49 = .ok (.iconst 0, 1) := by decide +kernel
theorem dL_book_50 : decode cL_book 50 = .ok (.istore 6, 2) := by decide +kernel
theorem dL_book_52 : decode cL_book 52 = .ok (.iload 6, 2) := by decide +kernel
theorem dL_book_54 : decode cL_book 54 = .ok (.aload_n 0, 1) := by decide +kernel
theorem dL_book_55 : decode cL_book 55 = .ok (.iconst 1, 1) := by decide +kernel
theorem dL_book_56 : decode cL_book 56 = .ok (.iaload, 1) := by decide +kernel
theorem dL_book_57 : decode cL_book 57 = .ok (.if_icmp .ge 94, 3) := by decide +kernel
theorem dL_book_60 : decode cL_book 60 = .ok (.iconst 0, 1) := by decide +kernel
theorem dL_book_61 : decode cL_book 61 = .ok (.istore 7, 2) := by decide +kernel
theorem dL_book_63 : decode cL_book 63 = .ok (.iload 7, 2) := by decide +kernel
theorem dL_book_65 : decode cL_book 65 = .ok (.aload_n 0, 1) := by decide +kernel
theorem dL_book_66 : decode cL_book 66 = .ok (.iconst 1, 1) := by decide +kernel
theorem dL_book_67 : decode cL_book 67 = .ok (.iaload, 1) := by decide +kernel
theorem dL_book_68 : decode cL_book 68 = .ok (.if_icmp .ge 77, 3) := by decide +kernel
theorem dL_book_71 : decode cL_book 71 = .ok (.aload_n 0, 1) := by decide +kernel
theorem dL_book_72 : decode cL_book 72 = .ok (.aload_n 1, 1) := by decide +kernel
theorem dL_book_73 : decode cL_book 73 = .ok (.iload_n 3, 1) := by decide +kernel
theorem dL_book_74 : decode cL_book 74 = .ok (.iload 4, 2) := by decide +kernel
theorem dL_book_76 : decode cL_book 76 = .ok (.iload 6, 2) := by decide +kernel
theorem dL_book_78 : decode cL_book 78 = .ok (.iload 7, 2) := by decide +kernel
theorem dL_book_80 : decode cL_book 80 = .ok (.invokestatic 75, 3) := by decide +kernel
theorem dL_book_83 : decode cL_book 83 = .ok (.ifCond .ne 6, 3) := by decide +kernel
theorem dL_book_86 : decode cL_book 86 = .ok (.goto 53, 3) := by decide +kernel
theorem dL_book_89 : decode cL_book 89 = .ok (.aload_n 2, 1) := by decide +kernel
theorem dL_book_90 : decode cL_book 90 = .ok (.iconst 0, 1) := by decide +kernel
theorem dL_book_91 : decode cL_book 91 = .ok (.dup2, 1) := by decide +kernel
theorem dL_book_92 : decode cL_book 92 = .ok (.iaload, 1) := by decide +kernel
theorem dL_book_93 : decode cL_book 93 = .ok (.iconst 1, 1) := by decide +kernel
theorem dL_book_94 : decode cL_book 94 = .ok (.iadd, 1) := by decide +kernel
theorem dL_book_95 : decode cL_book 95 = .ok (.iastore, 1) := by decide +kernel
theorem dL_book_96 : decode cL_book 96 = .ok (.iconst 0, 1) := by decide +kernel
theorem dL_book_97 : decode cL_book 97 = .ok (.istore 8, 2) := by decide +kernel
theorem dL_book_99 : decode cL_book 99 = .ok (.iload 8, 2) := by decide +kernel
theorem dL_book_101 : decode cL_book 101 = .ok (.aload_n 0, 1) := by decide +kernel
theorem dL_book_102 : decode cL_book 102 = .ok (.iconst 1, 1) := by decide +kernel
theorem dL_book_103 : decode cL_book 103 = .ok (.iaload, 1) := by decide +kernel
theorem dL_book_104 : decode cL_book 104 = .ok (.if_icmp .ge 35, 3) := by decide +kernel
theorem dL_book_107 : decode cL_book 107 = .ok (.aload_n 2, 1) := by decide +kernel
theorem dL_book_108 : decode cL_book 108 = .ok (.bipush 8, 2) := by decide +kernel
theorem dL_book_110 : decode cL_book 110 = .ok (.bipush 8, 2) := by decide +kernel
theorem dL_book_112 : decode cL_book 112 = .ok (.iload 4, 2) := by decide +kernel
theorem dL_book_114 : decode cL_book 114 = .ok (.iload 6, 2) := by decide +kernel
theorem dL_book_116 : decode cL_book 116 = .ok (.iload 7, 2) := by decide +kernel
theorem dL_book_118 : decode cL_book 118 = .ok (.iload 8, 2) := by decide +kernel
theorem dL_book_120 : decode cL_book 120 = .ok (.invokestatic 72, 3) := by decide +kernel
theorem dL_book_123 : decode cL_book 123 = .ok (.imul, 1) := by decide +kernel
theorem dL_book_124 : decode cL_book 124 = .ok (.iadd, 1) := by decide +kernel
theorem dL_book_125 : decode cL_book 125 = .ok (.iload 8, 2) := by decide +kernel
theorem dL_book_127 : decode cL_book 127 = .ok (.iadd, 1) := by decide +kernel
theorem dL_book_128 : decode cL_book 128 = .ok (.dup2, 1) := by decide +kernel
theorem dL_book_129 : decode cL_book 129 = .ok (.iaload, 1) := by decide +kernel
theorem dL_book_130 : decode cL_book 130 = .ok (.iconst 1, 1) := by decide +kernel
theorem dL_book_131 : decode cL_book 131 = .ok (.iadd, 1) := by decide +kernel
theorem dL_book_132 : decode cL_book 132 = .ok (.iastore, 1) := by decide +kernel
theorem dL_book_133 : decode cL_book 133 = .ok (.iinc 8 1, 3) := by decide +kernel
theorem dL_book_136 : decode cL_book 136 = .ok (.goto (-37), 3) := by decide +kernel
theorem dL_book_139 : decode cL_book 139 = .ok (.iinc 7 1, 3) := by decide +kernel
theorem dL_book_142 : decode cL_book 142 = .ok (.goto (-79), 3) := by decide +kernel
theorem dL_book_145 : decode cL_book 145 = .ok (.iinc 6 1, 3) := by decide +kernel
theorem dL_book_148 : decode cL_book 148 = .ok (.goto (-96), 3) := by decide +kernel
theorem dL_book_151 : decode cL_book 151 = .ok (.aload_n 2, 1) := by decide +kernel
theorem dL_book_152 : decode cL_book 152 = .ok (.iconst 0, 1) := by decide +kernel
theorem dL_book_153 : decode cL_book 153 = .ok (.iaload, 1) := by decide +kernel
theorem dL_book_154 : decode cL_book 154 = .ok (.iload 5, 2) := by decide +kernel
theorem dL_book_156 : decode cL_book 156 = .ok (.if_icmp .ne 6, 3) := by decide +kernel
theorem dL_book_159 : decode cL_book 159 = .ok (.goto 26, 3) := by decide +kernel
theorem dL_book_162 : decode cL_book 162 = .ok (.aload_n 2, 1) := by decide +kernel
theorem dL_book_163 : decode cL_book 163 = .ok (.iconst 1, 1) := by decide +kernel
theorem dL_book_164 : decode cL_book 164 = .ok (.dup2, 1) := by decide +kernel
theorem dL_book_165 : decode cL_book 165 = .ok (.iaload, 1) := by decide +kernel
theorem dL_book_166 : decode cL_book 166 = .ok (.iconst 1, 1) := by decide +kernel
theorem dL_book_167 : decode cL_book 167 = .ok (.iadd, 1) := by decide +kernel
theorem dL_book_168 : decode cL_book 168 = .ok (.iastore, 1) := by decide +kernel
theorem dL_book_169 : decode cL_book 169 = .ok (.aload_n 2, 1) := by decide +kernel
theorem dL_book_170 : decode cL_book 170 = .ok (.iconst 2, 1) := by decide +kernel
theorem dL_book_171 : decode cL_book 171 = .ok (.dup2, 1) := by decide +kernel
theorem dL_book_172 : decode cL_book 172 = .ok (.iaload, 1) := by decide +kernel
theorem dL_book_173 : decode cL_book 173 = .ok (.iload 4, 2) := by decide +kernel
theorem dL_book_175 : decode cL_book 175 = .ok (.iand, 1) := by decide +kernel
theorem dL_book_176 : decode cL_book 176 = .ok (.iastore, 1) := by decide +kernel
theorem dL_book_177 : decode cL_book 177 = .ok (.aload_n 2, 1) := by decide +kernel
theorem dL_book_178 : decode cL_book 178 = .ok (.iconst 3, 1) := by decide +kernel
theorem dL_book_179 : decode cL_book 179 = .ok (.dup2, 1) := by decide +kernel
theorem dL_book_180 : decode cL_book 180 = .ok (.iaload, 1) := by decide +kernel
theorem dL_book_181 : decode cL_book 181 = .ok (.iload 4, 2) := by decide +kernel
theorem dL_book_183 : decode cL_book 183 = .ok (.ior, 1) := by decide +kernel
theorem dL_book_184 : decode cL_book 184 = .ok (.iastore, 1) := by decide +kernel
theorem dL_book_185 : decode cL_book 185 = .ok (.iinc 4 1, 3) := by decide +kernel
theorem dL_book_188 : decode cL_book 188 = .ok (.goto (-154), 3) := by decide +kernel
theorem dL_book_191 : decode cL_book 191 = .ok (.return_, 1) := by decide +kernel
