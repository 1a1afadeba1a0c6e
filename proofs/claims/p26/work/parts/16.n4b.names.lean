set_option maxRecDepth 20000 in
theorem ggL_areFunctionsRight_X5_counted : GoodIn wsL_areFunctionsRight wsX5_counted := goodIn_ca (goodIn_r _ [144, 10, 83, 108, 109, 110, 4, 111, 112, 113, 6, 7, 94, 95, 96, 155, 156, 157, 158, 164, 165, 166, 167, 168, 169, 159, 160, 161, 162, 163] (by decide +kernel) (by decide +kernel)) (goodIn_sub (fun _ h => List.mem_cons_of_mem _ (List.mem_append_right _ h)) (by decide +kernel))
set_option maxRecDepth 20000 in
theorem gL_areFunctionsRight_X5_counted : GoodIn wsL_areFunctionsRight (wsV RL 92 RX5 yX5_counted wsX5_counted) := goodIn_app (goodIn_of _ (by decide +kernel)) ggL_areFunctionsRight_X5_counted
set_option maxRecDepth 20000 in
theorem ggL_areFunctionsRight_X5_stepAt : GoodIn wsL_areFunctionsRight wsX5_stepAt := goodIn_ca (goodIn_r _ [148, 112, 113, 6, 101, 102, 149, 108, 109, 110, 4, 111, 7, 155, 156, 157, 158, 159, 160, 161, 162, 163, 170, 171, 172, 173] (by decide +kernel) (by decide +kernel)) (goodIn_sub (fun _ h => List.mem_cons_of_mem _ (List.mem_append_right _ h)) (by decide +kernel))
set_option maxRecDepth 20000 in
theorem gL_areFunctionsRight_X5_stepAt : GoodIn wsL_areFunctionsRight (wsV RL 62 RX5 yX5_stepAt wsX5_stepAt) := goodIn_app (goodIn_of _ (by decide +kernel)) ggL_areFunctionsRight_X5_stepAt
set_option maxRecDepth 20000 in
theorem ggL_areFunctionsRight_X5_blamed : GoodIn wsL_areFunctionsRight wsX5_blamed := goodIn_ca (goodIn_r _ [153, 10, 154, 108, 109, 110, 4, 111, 112, 113, 6, 7, 155, 156, 157, 158, 164, 165, 166, 167, 168, 169, 159, 160, 161, 162, 163] (by decide +kernel) (by decide +kernel)) (goodIn_sub (fun _ h => List.mem_cons_of_mem _ (List.mem_append_right _ h)) (by decide +kernel))
set_option maxRecDepth 20000 in
theorem gL_areFunctionsRight_X5_blamed : GoodIn wsL_areFunctionsRight (wsV RL 104 RX5 yX5_blamed wsX5_blamed) := goodIn_app (goodIn_of _ (by decide +kernel)) ggL_areFunctionsRight_X5_blamed
theorem dL_areFunctionsRight_0 : decode cL_areFunctionsRight 0 = .ok (.iconst 0, 1) := by decide +kernel
theorem dL_areFunctionsRight_1 : decode cL_areFunctionsRight 1 = .ok (.istore_n 2, 1) := by decide +kernel
theorem dL_areFunctionsRight_2 : decode cL_areFunctionsRight 2 = .ok (.iconst 0, 1) := by decide +kernel
theorem dL_areFunctionsRight_3 : decode cL_areFunctionsRight 3 = .ok (.istore_n 3, 1) := by decide +kernel
theorem dL_areFunctionsRight_4 : decode cL_areFunctionsRight 4 = .ok (.iconst 0, 1) := by decide +kernel
theorem dL_areFunctionsRight_5 : decode cL_areFunctionsRight 5 = .ok (.istore 4, 2) := by decide +kernel
theorem dL_areFunctionsRight_7 : decode cL_areFunctionsRight 7 = .ok (.iconst 0, 1) := by decide +kernel
theorem dL_areFunctionsRight_8 : decode cL_areFunctionsRight 8 = .ok (.istore 5, 2) := by decide +kernel
theorem dL_areFunctionsRight_10 : decode cL_areFunctionsRight 10 = .ok (.iconst 0, 1) := by decide +kernel
theorem dL_areFunctionsRight_11 : decode cL_areFunctionsRight 11 = .ok (.istore 6, 2) := by decide +kernel
theorem dL_areFunctionsRight_13 : decode cL_areFunctionsRight 13 = .ok (.iload 6, 2) := by decide +kernel
theorem dL_areFunctionsRight_15 : decode cL_areFunctionsRight 15 = .ok (.aload_n 0, 1) := by decide +kernel
theorem dL_areFunctionsRight_16 : decode cL_areFunctionsRight 16 = .ok (.iconst 0, 1) := by decide +kernel
theorem dL_areFunctionsRight_17 : decode cL_areFunctionsRight 17 = .ok (.invokevirtual 33, 3) := by decide +kernel
theorem dL_areFunctionsRight_20 : decode cL_areFunctionsRight 20 = .ok (.if_icmp .ge 319, 3) := by decide +kernel
theorem dL_areFunctionsRight_23 : decode cL_areFunctionsRight 23 = .ok (.aload_n 0, 1) := by decide +kernel
theorem dL_areFunctionsRight_24 : decode cL_areFunctionsRight 24 = .ok (.iload 6, 2) := by decide +kernel
theorem dL_areFunctionsRight_26 : decode cL_areFunctionsRight 26 = .ok (.iconst 4, 1) := by decide +kernel
theorem dL_areFunctionsRight_27 : decode cL_areFunctionsRight 27 = .ok (.invokevirtual 59, 3) := by decide +kernel
theorem dL_areFunctionsRight_30 : decode cL_areFunctionsRight 30 = .ok (.aload_n 0, 1) := by decide +kernel
theorem dL_areFunctionsRight_31 : decode cL_areFunctionsRight 31 = .ok (.iload 6, 2) := by decide +kernel
theorem dL_areFunctionsRight_33 : decode cL_areFunctionsRight 33 = .ok (.bipush 6, 2) := by decide +kernel
theorem dL_areFunctionsRight_35 : decode cL_areFunctionsRight 35 = .ok (.invokevirtual 59, 3) := by decide +kernel
theorem dL_areFunctionsRight_38 : decode cL_areFunctionsRight 38 = .ok (.iadd, 1) := by decide +kernel
theorem dL_areFunctionsRight_39 : decode cL_areFunctionsRight 39 = .ok (.ifCond .ne 7, 3) := by decide +kernel
theorem dL_areFunctionsRight_42 : decode cL_areFunctionsRight 42 = .ok (.iconst 1, 1) := by decide +kernel
theorem dL_areFunctionsRight_43 : decode cL_areFunctionsRight 43 = .ok (.goto 4, 3) := by decide +kernel
theorem dL_areFunctionsRight_46 : decode cL_areFunctionsRight 46 = .ok (.iconst 0, 1) := by decide +kernel
theorem dL_areFunctionsRight_47 : decode cL_areFunctionsRight 47 = .ok (.istore 7, 2) := by decide +kernel
theorem dL_areFunctionsRight_49 : decode cL_areFunctionsRight 49 = .ok (.iload_n 2, 1) := by decide +kernel
theorem dL_areFunctionsRight_50 : decode cL_areFunctionsRight 50 = .ok (.aload_n 0, 1) := by decide +kernel
theorem dL_areFunctionsRight_51 : decode cL_areFunctionsRight 51 = .ok (.iload 6, 2) := by decide +kernel
theorem dL_areFunctionsRight_53 : decode cL_areFunctionsRight 53 = .ok (.iconst 3, 1) := by decide +kernel
theorem dL_areFunctionsRight_54 : decode cL_areFunctionsRight 54 = .ok (.invokevirtual 59, 3) := by decide +kernel
theorem dL_areFunctionsRight_57 : decode cL_areFunctionsRight 57 = .ok (.iadd, 1) := by decide +kernel
theorem dL_areFunctionsRight_58 : decode cL_areFunctionsRight 58 = .ok (.istore_n 2, 1) := by decide +kernel
theorem dL_areFunctionsRight_59 : decode cL_areFunctionsRight 59 = .ok (.iload_n 3, 1) := by decide +kernel
theorem dL_areFunctionsRight_60 : decode cL_areFunctionsRight 60 = .ok (.iload 7, 2) := by decide +kernel
theorem dL_areFunctionsRight_62 : decode cL_areFunctionsRight 62 = .ok (.ifCond .eq 7, 3) := by decide +kernel
theorem dL_areFunctionsRight_65 : decode cL_areFunctionsRight 65 = .ok (.iconst 1, 1) := by decide +kernel
theorem dL_areFunctionsRight_66 : decode cL_areFunctionsRight 66 = .ok (.goto 4, 3) := by decide +kernel
theorem dL_areFunctionsRight_69 : decode cL_areFunctionsRight 69 = .ok (.iconst 0, 1) := by decide +kernel
theorem dL_areFunctionsRight_70 : decode cL_areFunctionsRight 70 = .ok (.iadd, 1) := by decide +kernel
theorem dL_areFunctionsRight_71 : decode cL_areFunctionsRight 71 = .ok (.istore_n 3, 1) := by decide +kernel
theorem dL_areFunctionsRight_72 : decode cL_areFunctionsRight 72 = .ok (.iload 4, 2) := by decide +kernel
theorem dL_areFunctionsRight_74 : decode cL_areFunctionsRight 74 = .ok (.aload_n 0, 1) := by decide +kernel
theorem dL_areFunctionsRight_75 : decode cL_areFunctionsRight 75 = .ok (.iload 6, 2) := by decide +kernel
theorem dL_areFunctionsRight_77 : decode cL_areFunctionsRight 77 = .ok (.iconst 4, 1) := by decide +kernel
theorem dL_areFunctionsRight_78 : decode cL_areFunctionsRight 78 = .ok (.invokevirtual 59, 3) := by decide +kernel
theorem dL_areFunctionsRight_81 : decode cL_areFunctionsRight 81 = .ok (.iadd, 1) := by decide +kernel
theorem dL_areFunctionsRight_82 : decode cL_areFunctionsRight 82 = .ok (.istore 4, 2) := by decide +kernel
theorem dL_areFunctionsRight_84 : decode cL_areFunctionsRight 84 = .ok (.iload 5, 2) := by decide +kernel
theorem dL_areFunctionsRight_86 : decode cL_areFunctionsRight 86 = .ok (.aload_n 0, 1) := by decide +kernel
theorem dL_areFunctionsRight_87 : decode cL_areFunctionsRight 87 = .ok (.iconst (-1), 1) := by decide +kernel
theorem dL_areFunctionsRight_88 : decode cL_areFunctionsRight 88 = .ok (.iload 6, 2) := by decide +kernel
theorem dL_areFunctionsRight_90 : decode cL_areFunctionsRight 90 = .ok (.invokevirtual 92, 3) := by decide +kernel
theorem dL_areFunctionsRight_93 : decode cL_areFunctionsRight 93 = .ok (.iadd, 1) := by decide +kernel
theorem dL_areFunctionsRight_94 : decode cL_areFunctionsRight 94 = .ok (.istore 5, 2) := by decide +kernel
theorem dL_areFunctionsRight_96 : decode cL_areFunctionsRight 96 = .ok (.iconst 0, 1) := by decide +kernel
theorem dL_areFunctionsRight_97 : decode cL_areFunctionsRight 97 = .ok (.istore 8, 2) := by decide +kernel
theorem dL_areFunctionsRight_99 : decode cL_areFunctionsRight 99 = .ok (.iconst 0, 1) := by decide +kernel
theorem dL_areFunctionsRight_100 : decode cL_areFunctionsRight 100 = .ok (.istore 9, 2) := by decide +kernel
theorem dL_areFunctionsRight_102 : decode cL_areFunctionsRight 102 = .ok (.iconst (-1), 1) := by decide +kernel
theorem dL_areFunctionsRight_103 : decode cL_areFunctionsRight 103 = .ok (.istore 10, 2) := by decide +kernel
theorem dL_areFunctionsRight_105 : decode cL_areFunctionsRight 105 = .ok (.iload 10, 2) := by decide +kernel
theorem dL_areFunctionsRight_107 : decode cL_areFunctionsRight 107 = .ok (.aload_n 0, 1) := by decide +kernel
theorem dL_areFunctionsRight_108 : decode cL_areFunctionsRight 108 = .ok (.iconst 0, 1) := by decide +kernel
theorem dL_areFunctionsRight_109 : decode cL_areFunctionsRight 109 = .ok (.invokevirtual 33, 3) := by decide +kernel
theorem dL_areFunctionsRight_112 : decode cL_areFunctionsRight 112 = .ok (.if_icmp .ge 22, 3) := by decide +kernel
theorem dL_areFunctionsRight_115 : decode cL_areFunctionsRight 115 = .ok (.iload 8, 2) := by decide +kernel
theorem dL_areFunctionsRight_117 : decode cL_areFunctionsRight 117 = .ok (.aload_n 0, 1) := by decide +kernel
theorem dL_areFunctionsRight_118 : decode cL_areFunctionsRight 118 = .ok (.iload 10, 2) := by decide +kernel
theorem dL_areFunctionsRight_120 : decode cL_areFunctionsRight 120 = .ok (.iload 6, 2) := by decide +kernel
theorem dL_areFunctionsRight_122 : decode cL_areFunctionsRight 122 = .ok (.invokevirtual 92, 3) := by decide +kernel
theorem dL_areFunctionsRight_125 : decode cL_areFunctionsRight 125 = .ok (.iadd, 1) := by decide +kernel
theorem dL_areFunctionsRight_126 : decode cL_areFunctionsRight 126 = .ok (.istore 8, 2) := by decide +kernel
theorem dL_areFunctionsRight_128 : decode cL_areFunctionsRight 128 = .ok (.iinc 10 1, 3) := by decide +kernel
theorem dL_areFunctionsRight_131 : decode cL_areFunctionsRight 131 = .ok (.goto (-26), 3) := by decide +kernel
theorem dL_areFunctionsRight_134 : decode cL_areFunctionsRight 134 = .ok (.iconst 0, 1) := by decide +kernel
theorem dL_areFunctionsRight_135 : decode cL_areFunctionsRight 135 = .ok (.istore 10, 2) := by decide +kernel
theorem dL_areFunctionsRight_137 : decode cL_areFunctionsRight 137 = .ok (.iload 10, 2) := by decide +kernel
theorem dL_areFunctionsRight_139 : decode cL_areFunctionsRight 139 = .ok (.aload_n 0, 1) := by decide +kernel
theorem dL_areFunctionsRight_140 : decode cL_areFunctionsRight 140 = .ok (.iconst 0, 1) := by decide +kernel
theorem dL_areFunctionsRight_141 : decode cL_areFunctionsRight 141 = .ok (.invokevirtual 33, 3) := by decide +kernel
theorem dL_areFunctionsRight_144 : decode cL_areFunctionsRight 144 = .ok (.if_icmp .ge 81, 3) := by decide +kernel
theorem dL_areFunctionsRight_147 : decode cL_areFunctionsRight 147 = .ok (.iconst 0, 1) := by decide +kernel
theorem dL_areFunctionsRight_148 : decode cL_areFunctionsRight 148 = .ok (.istore 11, 2) := by decide +kernel
theorem dL_areFunctionsRight_150 : decode cL_areFunctionsRight 150 = .ok (.iconst 0, 1) := by decide +kernel
theorem dL_areFunctionsRight_151 : decode cL_areFunctionsRight 151 = .ok (.istore 12, 2) := by decide +kernel
theorem dL_areFunctionsRight_153 : decode cL_areFunctionsRight 153 = .ok (.iload 12, 2) := by decide +kernel
theorem dL_areFunctionsRight_155 : decode cL_areFunctionsRight 155 = .ok (.aload_n 0, 1) := by decide +kernel
theorem dL_areFunctionsRight_156 : decode cL_areFunctionsRight 156 = .ok (.iload 10, 2) := by decide +kernel
theorem dL_areFunctionsRight_158 : decode cL_areFunctionsRight 158 = .ok (.iconst 0, 1) := by decide +kernel
theorem dL_areFunctionsRight_159 : decode cL_areFunctionsRight 159 = .ok (.invokevirtual 59, 3) := by decide +kernel
theorem dL_areFunctionsRight_162 : decode cL_areFunctionsRight 162 = .ok (.if_icmp .ge 35, 3) := by decide +kernel
theorem dL_areFunctionsRight_165 : decode cL_areFunctionsRight 165 = .ok (.iload 11, 2) := by decide +kernel
theorem dL_areFunctionsRight_167 : decode cL_areFunctionsRight 167 = .ok (.aload_n 0, 1) := by decide +kernel
theorem dL_areFunctionsRight_168 : decode cL_areFunctionsRight 168 = .ok (.iload 10, 2) := by decide +kernel
theorem dL_areFunctionsRight_170 : decode cL_areFunctionsRight 170 = .ok (.iload 12, 2) := by decide +kernel
theorem dL_areFunctionsRight_172 : decode cL_areFunctionsRight 172 = .ok (.invokevirtual 62, 3) := by decide +kernel
theorem dL_areFunctionsRight_175 : decode cL_areFunctionsRight 175 = .ok (.bipush 40, 2) := by decide +kernel
theorem dL_areFunctionsRight_177 : decode cL_areFunctionsRight 177 = .ok (.iload 6, 2) := by decide +kernel
theorem dL_areFunctionsRight_179 : decode cL_areFunctionsRight 179 = .ok (.iadd, 1) := by decide +kernel
theorem dL_areFunctionsRight_180 : decode cL_areFunctionsRight 180 = .ok (.if_icmp .ne 7, 3) := by decide +kernel
theorem dL_areFunctionsRight_183 : decode cL_areFunctionsRight 183 = .ok (.iconst 1, 1) := by decide +kernel
theorem dL_areFunctionsRight_184 : decode cL_areFunctionsRight 184 = .ok (.goto 4, 3) := by decide +kernel
theorem dL_areFunctionsRight_187 : decode cL_areFunctionsRight 187 = .ok (.iconst 0, 1) := by decide +kernel
theorem dL_areFunctionsRight_188 : decode cL_areFunctionsRight 188 = .ok (.ior, 1) := by decide +kernel
theorem dL_areFunctionsRight_189 : decode cL_areFunctionsRight 189 = .ok (.istore 11, 2) := by decide +kernel
theorem dL_areFunctionsRight_191 : decode cL_areFunctionsRight 191 = .ok (.iinc 12 1, 3) := by decide +kernel
theorem dL_areFunctionsRight_194 : decode cL_areFunctionsRight 194 = .ok (.goto (-41), 3) := by decide +kernel
theorem dL_areFunctionsRight_197 : decode cL_areFunctionsRight 197 = .ok (.iload 9, 2) := by decide +kernel
theorem dL_areFunctionsRight_199 : decode cL_areFunctionsRight 199 = .ok (.iload 11, 2) := by decide +kernel
theorem dL_areFunctionsRight_201 : decode cL_areFunctionsRight 201 = .ok (.ifCond .eq 14, 3) := by decide +kernel
theorem dL_areFunctionsRight_204 : decode cL_areFunctionsRight 204 = .ok (.iload 10, 2) := by decide +kernel
theorem dL_areFunctionsRight_206 : decode cL_areFunctionsRight 206 = .ok (.iload 6, 2) := by decide +kernel
theorem dL_areFunctionsRight_208 : decode cL_areFunctionsRight 208 = .ok (.if_icmp .eq 7, 3) := by decide +kernel
theorem dL_areFunctionsRight_211 : decode cL_areFunctionsRight 211 = .ok (.iconst 1, 1) := by decide +kernel
theorem dL_areFunctionsRight_212 : decode cL_areFunctionsRight 212 = .ok (.goto 4, 3) := by decide +kernel
theorem dL_areFunctionsRight_215 : decode cL_areFunctionsRight 215 = .ok (.iconst 0, 1) := by decide +kernel
theorem dL_areFunctionsRight_216 : decode cL_areFunctionsRight 216 = .ok (.iadd, 1) := by decide +kernel
theorem dL_areFunctionsRight_217 : decode cL_areFunctionsRight 217 = .ok (.istore 9, 2) := by decide +kernel
theorem dL_areFunctionsRight_219 : decode cL_areFunctionsRight 219 = .ok (.iinc 10 1, 3) := by decide +kernel
theorem dL_areFunctionsRight_222 : decode cL_areFunctionsRight 222 = .ok (.goto (-85), 3) := by decide +kernel
theorem dL_areFunctionsRight_225 : decode cL_areFunctionsRight 225 = .ok (.aload_n 0, 1) := by decide +kernel
theorem dL_areFunctionsRight_226 : decode cL_areFunctionsRight 226 = .ok (.iload 6, 2) := by decide +kernel
theorem dL_areFunctionsRight_228 : decode cL_areFunctionsRight 228 = .ok (.iconst 3, 1) := by decide +kernel
theorem dL_areFunctionsRight_229 : decode cL_areFunctionsRight 229 = .ok (.invokevirtual 59, 3) := by decide +kernel
theorem dL_areFunctionsRight_232 : decode cL_areFunctionsRight 232 = .ok (.iconst 1, 1) := by decide +kernel
theorem dL_areFunctionsRight_233 : decode cL_areFunctionsRight 233 = .ok (.if_icmp .ne 8, 3) := by decide +kernel
theorem dL_areFunctionsRight_236 : decode cL_areFunctionsRight 236 = .ok (.iload 7, 2) := by decide +kernel
theorem dL_areFunctionsRight_238 : decode cL_areFunctionsRight 238 = .ok (.ifCond .eq 93, 3) := by decide +kernel
theorem dL_areFunctionsRight_241 : decode cL_areFunctionsRight 241 = .ok (.aload_n 0, 1) := by decide +kernel
theorem dL_areFunctionsRight_242 : decode cL_areFunctionsRight 242 = .ok (.iload 6, 2) := by decide +kernel
theorem dL_areFunctionsRight_244 : decode cL_areFunctionsRight 244 = .ok (.bipush 10, 2) := by decide +kernel
theorem dL_areFunctionsRight_246 : decode cL_areFunctionsRight 246 = .ok (.invokevirtual 59, 3) := by decide +kernel
theorem dL_areFunctionsRight_249 : decode cL_areFunctionsRight 249 = .ok (.iload 8, 2) := by decide +kernel
theorem dL_areFunctionsRight_251 : decode cL_areFunctionsRight 251 = .ok (.if_icmp .ne 80, 3) := by decide +kernel
theorem dL_areFunctionsRight_254 : decode cL_areFunctionsRight 254 = .ok (.aload_n 0, 1) := by decide +kernel
theorem dL_areFunctionsRight_255 : decode cL_areFunctionsRight 255 = .ok (.iload 6, 2) := by decide +kernel
theorem dL_areFunctionsRight_257 : decode cL_areFunctionsRight 257 = .ok (.bipush 9, 2) := by decide +kernel
theorem dL_areFunctionsRight_259 : decode cL_areFunctionsRight 259 = .ok (.invokevirtual 59, 3) := by decide +kernel
theorem dL_areFunctionsRight_262 : decode cL_areFunctionsRight 262 = .ok (.iload 9, 2) := by decide +kernel
theorem dL_areFunctionsRight_264 : decode cL_areFunctionsRight 264 = .ok (.if_icmp .ne 67, 3) := by decide +kernel
theorem dL_areFunctionsRight_267 : decode cL_areFunctionsRight 267 = .ok (.aload_n 0, 1) := by decide +kernel
theorem dL_areFunctionsRight_268 : decode cL_areFunctionsRight 268 = .ok (.iload 6, 2) := by decide +kernel
theorem dL_areFunctionsRight_270 : decode cL_areFunctionsRight 270 = .ok (.invokevirtual 104, 3) := by decide +kernel
theorem dL_areFunctionsRight_273 : decode cL_areFunctionsRight 273 = .ok (.aload_n 1, 1) := by decide +kernel
theorem dL_areFunctionsRight_274 : decode cL_areFunctionsRight 274 = .ok (.iload 6, 2) := by decide +kernel
theorem dL_areFunctionsRight_276 : decode cL_areFunctionsRight 276 = .ok (.iaload, 1) := by decide +kernel
theorem dL_areFunctionsRight_277 : decode cL_areFunctionsRight 277 = .ok (.if_icmp .ne 54, 3) := by decide +kernel
theorem dL_areFunctionsRight_280 : decode cL_areFunctionsRight 280 = .ok (.aload_n 0, 1) := by decide +kernel
theorem dL_areFunctionsRight_281 : decode cL_areFunctionsRight 281 = .ok (.iload 6, 2) := by decide +kernel
theorem dL_areFunctionsRight_283 : decode cL_areFunctionsRight 283 = .ok (.iconst 5, 1) := by decide +kernel
theorem dL_areFunctionsRight_284 : decode cL_areFunctionsRight 284 = .ok (.invokevirtual 59, 3) := by decide +kernel
theorem dL_areFunctionsRight_287 : decode cL_areFunctionsRight 287 = .ok (.iconst (-1), 1) := by decide +kernel
theorem dL_areFunctionsRight_288 : decode cL_areFunctionsRight 288 = .ok (.if_icmp .ne 7, 3) := by decide +kernel
theorem dL_areFunctionsRight_291 : decode cL_areFunctionsRight 291 = .ok (.iconst 1, 1) := by decide +kernel
theorem dL_areFunctionsRight_292 : decode cL_areFunctionsRight 292 = .ok (.goto 4, 3) := by decide +kernel
theorem dL_areFunctionsRight_295 : decode cL_areFunctionsRight 295 = .ok (.iconst 0, 1) := by decide +kernel
theorem dL_areFunctionsRight_296 : decode cL_areFunctionsRight 296 = .ok (.aload_n 0, 1) := by decide +kernel
theorem dL_areFunctionsRight_297 : decode cL_areFunctionsRight 297 = .ok (.iload 6, 2) := by decide +kernel
theorem dL_areFunctionsRight_299 : decode cL_areFunctionsRight 299 = .ok (.iconst 4, 1) := by decide +kernel
theorem dL_areFunctionsRight_300 : decode cL_areFunctionsRight 300 = .ok (.invokevirtual 59, 3) := by decide +kernel
theorem dL_areFunctionsRight_303 : decode cL_areFunctionsRight 303 = .ok (.ifCond .ne 7, 3) := by decide +kernel
theorem dL_areFunctionsRight_306 : decode cL_areFunctionsRight 306 = .ok (.iconst 1, 1) := by decide +kernel
theorem dL_areFunctionsRight_307 : decode cL_areFunctionsRight 307 = .ok (.goto 4, 3) := by decide +kernel
theorem dL_areFunctionsRight_310 : decode cL_areFunctionsRight 310 = .ok (.iconst 0, 1) := by decide +kernel
theorem dL_areFunctionsRight_311 : decode cL_areFunctionsRight 311 = .ok (.if_icmp .ne 20, 3) := by decide +kernel
theorem dL_areFunctionsRight_314 : decode cL_areFunctionsRight 314 = .ok (.aload_n 0, 1) := by decide +kernel
theorem dL_areFunctionsRight_315 : decode cL_areFunctionsRight 315 = .ok (.iload 6, 2) := by decide +kernel
theorem dL_areFunctionsRight_317 : decode cL_areFunctionsRight 317 = .ok (.iconst 5, 1) := by decide +kernel
theorem dL_areFunctionsRight_318 : decode cL_areFunctionsRight 318 = .ok (.invokevirtual 59, 3) := by decide +kernel
theorem dL_areFunctionsRight_321 : decode cL_areFunctionsRight 321 = .ok (.aload_n 0, 1) := by decide +kernel
theorem dL_areFunctionsRight_322 : decode cL_areFunctionsRight 322 = .ok (.iload 6, 2) := by decide +kernel
theorem dL_areFunctionsRight_324 : decode cL_areFunctionsRight 324 = .ok (.iconst 0, 1) := by decide +kernel
theorem dL_areFunctionsRight_325 : decode cL_areFunctionsRight 325 = .ok (.invokevirtual 59, 3) := by decide +kernel
theorem dL_areFunctionsRight_328 : decode cL_areFunctionsRight 328 = .ok (.if_icmp .le 5, 3) := by decide +kernel
theorem dL_areFunctionsRight_331 : decode cL_areFunctionsRight 331 = .ok (.iconst 0, 1) := by decide +kernel
theorem dL_areFunctionsRight_332 : decode cL_areFunctionsRight 332 = .ok (.ireturn, 1) := by decide +kernel
theorem dL_areFunctionsRight_333 : decode cL_areFunctionsRight 333 = .ok (.iinc 6 1, 3) := by decide +kernel
theorem dL_areFunctionsRight_336 : decode cL_areFunctionsRight 336 = .ok (.goto (-323), 3) := by decide +kernel
theorem dL_areFunctionsRight_339 : decode cL_areFunctionsRight 339 = .ok (.aload_n 0, 1) := by decide +kernel
theorem dL_areFunctionsRight_340 : decode cL_areFunctionsRight 340 = .ok (.iconst 1, 1) := by decide +kernel
theorem dL_areFunctionsRight_341 : decode cL_areFunctionsRight 341 = .ok (.invokevirtual 33, 3) := by decide +kernel
theorem dL_areFunctionsRight_344 : decode cL_areFunctionsRight 344 = .ok (.iload_n 2, 1) := by decide +kernel
theorem dL_areFunctionsRight_345 : decode cL_areFunctionsRight 345 = .ok (.if_icmp .ne 50, 3) := by decide +kernel
theorem dL_areFunctionsRight_348 : decode cL_areFunctionsRight 348 = .ok (.aload_n 0, 1) := by decide +kernel
theorem dL_areFunctionsRight_349 : decode cL_areFunctionsRight 349 = .ok (.iconst 2, 1) := by decide +kernel
theorem dL_areFunctionsRight_350 : decode cL_areFunctionsRight 350 = .ok (.invokevirtual 33, 3) := by decide +kernel
theorem dL_areFunctionsRight_353 : decode cL_areFunctionsRight 353 = .ok (.iload_n 3, 1) := by decide +kernel
theorem dL_areFunctionsRight_354 : decode cL_areFunctionsRight 354 = .ok (.if_icmp .ne 41, 3) := by decide +kernel
theorem dL_areFunctionsRight_357 : decode cL_areFunctionsRight 357 = .ok (.aload_n 0, 1) := by decide +kernel
theorem dL_areFunctionsRight_358 : decode cL_areFunctionsRight 358 = .ok (.iconst 3, 1) := by decide +kernel
theorem dL_areFunctionsRight_359 : decode cL_areFunctionsRight 359 = .ok (.invokevirtual 33, 3) := by decide +kernel
theorem dL_areFunctionsRight_362 : decode cL_areFunctionsRight 362 = .ok (.iload 4, 2) := by decide +kernel
theorem dL_areFunctionsRight_364 : decode cL_areFunctionsRight 364 = .ok (.if_icmp .ne 31, 3) := by decide +kernel
theorem dL_areFunctionsRight_367 : decode cL_areFunctionsRight 367 = .ok (.aload_n 0, 1) := by decide +kernel
theorem dL_areFunctionsRight_368 : decode cL_areFunctionsRight 368 = .ok (.iconst 5, 1) := by decide +kernel
theorem dL_areFunctionsRight_369 : decode cL_areFunctionsRight 369 = .ok (.invokevirtual 33, 3) := by decide +kernel
theorem dL_areFunctionsRight_372 : decode cL_areFunctionsRight 372 = .ok (.iload 5, 2) := by decide +kernel
theorem dL_areFunctionsRight_374 : decode cL_areFunctionsRight 374 = .ok (.if_icmp .ne 21, 3) := by decide +kernel
theorem dL_areFunctionsRight_377 : decode cL_areFunctionsRight 377 = .ok (.aload_n 0, 1) := by decide +kernel
theorem dL_areFunctionsRight_378 : decode cL_areFunctionsRight 378 = .ok (.bipush 6, 2) := by decide +kernel
theorem dL_areFunctionsRight_380 : decode cL_areFunctionsRight 380 = .ok (.invokevirtual 33, 3) := by decide +kernel
theorem dL_areFunctionsRight_383 : decode cL_areFunctionsRight 383 = .ok (.aload_n 0, 1) := by decide +kernel
theorem dL_areFunctionsRight_384 : decode cL_areFunctionsRight 384 = .ok (.iconst 5, 1) := by decide +kernel
theorem dL_areFunctionsRight_385 : decode cL_areFunctionsRight 385 = .ok (.invokevirtual 33, 3) := by decide +kernel
theorem dL_areFunctionsRight_388 : decode cL_areFunctionsRight 388 = .ok (.if_icmp .gt 7, 3) := by decide +kernel
theorem dL_areFunctionsRight_391 : decode cL_areFunctionsRight 391 = .ok (.iconst 1, 1) := by decide +kernel
theorem dL_areFunctionsRight_392 : decode cL_areFunctionsRight 392 = .ok (.goto 4, 3) := by decide +kernel
theorem dL_areFunctionsRight_395 : decode cL_areFunctionsRight 395 = .ok (.iconst 0, 1) := by decide +kernel
theorem dL_areFunctionsRight_396 : decode cL_areFunctionsRight 396 = .ok (.ireturn, 1) := by decide +kernel
