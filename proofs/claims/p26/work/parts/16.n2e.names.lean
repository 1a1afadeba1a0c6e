abbrev ggL_act_L_isRunRight_w : List Cond := .code yL_isRunRight cL_isRunRight 11 (some .boolean) :: ((wsL_isRunRight_r1 ++ (wsL_isRunRight_r2 ++ (wsL_isRunRight_r3 ++ (wsL_isRunRight_r4 ++ (wsL_isRunRight_r5 ++ (wsL_isRunRight_r6 ++ (wsL_isRunRight_r7 ++ (wsL_isRunRight_r8 ++ (wsL_isRunRight_r9 ++ (wsL_isRunRight_r10 ++ (wsL_isRunRight_r11 ++ wsL_isRunRight_r12))))))))))) ++ wsX50 ++ wsX30 ++ wsX00 ++ wsX20 ++ wsX10 ++ wsX40)
set_option maxRecDepth 20000 in
theorem ggL_act_L_isRunRight_c0 : GoodIn wsL_act (ggL_act_L_isRunRight_w.take 60) := goodIn_r _ [241, 98, 99, 100, 101, 102, 2, 3, 4, 5, 6, 7, 8, 9, 10, 11, 12, 13, 14, 15, 16, 17, 18, 19, 20, 21, 22, 23, 24, 25, 26, 27, 28, 29, 30, 31, 32, 33, 34, 35, 36, 37, 38, 39, 40, 41, 42, 43, 44, 45, 46, 47, 48, 49, 50, 51, 52, 53, 54, 55] (by decide +kernel) (by decide +kernel)
set_option maxRecDepth 20000 in
theorem ggL_act_L_isRunRight_c1 : GoodIn wsL_act ((ggL_act_L_isRunRight_w.drop 60).take 60) := goodIn_r _ [56, 57, 58, 59, 60, 61, 62, 63, 64, 65, 66, 67, 68, 69, 70, 71, 72, 73, 74, 75, 76, 77, 78, 79, 80, 81, 82, 83, 84, 85, 86, 87, 88, 89, 90, 91, 92, 93, 94, 95, 96, 97, 242, 243, 244, 245, 115, 116, 117, 118, 119, 120, 246, 247, 248, 249, 250, 235, 251, 252] (by decide +kernel) (by decide +kernel)
set_option maxRecDepth 20000 in
theorem ggL_act_L_isRunRight_c2 : GoodIn wsL_act (((ggL_act_L_isRunRight_w.drop 60).drop 60).take 60) := goodIn_r _ [253, 254, 255, 256, 257, 258, 259, 260, 261, 262, 263, 264, 265, 266, 267, 268, 269, 270, 271, 272, 273, 274, 275, 276, 277, 278, 279, 280, 281, 282, 283, 284, 285, 286, 287, 288, 289, 290, 291, 292, 293, 294, 295, 296, 297, 298, 299, 300, 301, 302, 303, 304, 305, 306, 307, 308, 309, 310, 311, 312] (by decide +kernel) (by decide +kernel)
set_option maxRecDepth 20000 in
theorem ggL_act_L_isRunRight_c3 : GoodIn wsL_act ((((ggL_act_L_isRunRight_w.drop 60).drop 60).drop 60).take 60) := goodIn_r _ [313, 314, 315, 316, 317, 318, 319, 320, 321, 322, 323, 324, 325, 326, 327, 328, 329, 330, 331, 332, 333, 174, 334, 335, 336, 337, 338, 339, 340, 341, 342, 343, 344, 345, 346, 347, 348, 176, 349, 350, 351, 352, 353, 354, 355, 356, 357, 358, 359, 360, 361, 362, 363, 364, 141, 142, 143, 144, 112, 113] (by decide +kernel) (by decide +kernel)
set_option maxRecDepth 20000 in
theorem ggL_act_L_isRunRight_c4 : GoodIn wsL_act ((((ggL_act_L_isRunRight_w.drop 60).drop 60).drop 60).drop 60) := goodIn_r _ [145, 146, 147, 148, 149, 150, 151, 152, 153, 154, 155, 156, 157, 158, 159, 160, 161, 162, 163, 164, 165, 166, 167, 168, 169, 170, 171, 172, 173, 175, 365, 366, 367, 368, 369, 370, 371, 372, 373, 374, 375, 376, 377, 378, 379, 380, 381, 382, 383, 384, 385, 386, 387, 388, 389, 390, 391, 392, 393, 394, 395, 396, 397, 398, 399] (by decide +kernel) (by decide +kernel)
set_option maxRecDepth 20000 in
theorem ggL_act_L_isRunRight : GoodIn wsL_act wsL_isRunRight := goodIn_ca (goodIn_ca ((gi_td 60 ggL_act_L_isRunRight_c0 (gi_td 60 ggL_act_L_isRunRight_c1 (gi_td 60 ggL_act_L_isRunRight_c2 (gi_td 60 ggL_act_L_isRunRight_c3 ggL_act_L_isRunRight_c4))))) (goodIn_sub (fun _ h => List.mem_cons_of_mem _ (List.mem_append_left _ (List.mem_append_left _ (List.mem_append_right _ h)))) (by decide +kernel))) (goodIn_sub (fun _ h => List.mem_cons_of_mem _ (List.mem_append_right _ h)) (by decide +kernel))
set_option maxRecDepth 20000 in
theorem gL_act_L_isRunRight : GoodIn wsL_act (va_wsS RL 87 yL_isRunRight wsL_isRunRight) := goodIn_app (goodIn_of _ (by decide +kernel)) ggL_act_L_isRunRight
theorem dL_act_0 : decode cL_act 0 = .ok (.aload_n 0, 1) := by decide +kernel
theorem dL_act_1 : decode cL_act 1 = .ok (.iconst 0, 1) := by decide +kernel
theorem dL_act_2 : decode cL_act 2 = .ok (.invokevirtual 33, 3) := by decide +kernel
theorem dL_act_5 : decode cL_act 5 = .ok (.aload_n 0, 1) := by decide +kernel
theorem dL_act_6 : decode cL_act 6 = .ok (.iconst 1, 1) := by decide +kernel
theorem dL_act_7 : decode cL_act 7 = .ok (.invokevirtual 33, 3) := by decide +kernel
theorem dL_act_10 : decode cL_act 10 = .ok (.isub, 1) := by decide +kernel
theorem dL_act_11 : decode cL_act 11 = .ok (.istore 4, 2) := by decide +kernel
theorem dL_act_13 : decode cL_act 13 = .ok (.iload_n 1, 1) := by decide +kernel
theorem dL_act_14 : decode cL_act 14 = .ok (.bipush 11, 2) := by decide +kernel
theorem dL_act_16 : decode cL_act 16 = .ok (.invokestatic 29, 3) := by decide +kernel
theorem dL_act_19 : decode cL_act 19 = .ok (.tableswitch 373 0 7 #[45, 84, 141, 246, 246, 268, 314, 350], 45) := by decide +kernel
theorem dL_act_64 : decode cL_act 64 = .ok (.aload_n 0, 1) := by decide +kernel
theorem dL_act_65 : decode cL_act 65 = .ok (.iload_n 2, 1) := by decide +kernel
theorem dL_act_66 : decode cL_act 66 = .ok (.iload_n 1, 1) := by decide +kernel
theorem dL_act_67 : decode cL_act 67 = .ok (.iconst 4, 1) := by decide +kernel
theorem dL_act_68 : decode cL_act 68 = .ok (.ishr, 1) := by decide +kernel
theorem dL_act_69 : decode cL_act 69 = .ok (.iload_n 1, 1) := by decide +kernel
theorem dL_act_70 : decode cL_act 70 = .ok (.bipush 6, 2) := by decide +kernel
theorem dL_act_72 : decode cL_act 72 = .ok (.ishr, 1) := by decide +kernel
theorem dL_act_73 : decode cL_act 73 = .ok (.iconst 4, 1) := by decide +kernel
theorem dL_act_74 : decode cL_act 74 = .ok (.invokestatic 29, 3) := by decide +kernel
theorem dL_act_77 : decode cL_act 77 = .ok (.aload_n 0, 1) := by decide +kernel
theorem dL_act_78 : decode cL_act 78 = .ok (.iconst 0, 1) := by decide +kernel
theorem dL_act_79 : decode cL_act 79 = .ok (.invokevirtual 33, 3) := by decide +kernel
theorem dL_act_82 : decode cL_act 82 = .ok (.invokestatic 53, 3) := by decide +kernel
theorem dL_act_85 : decode cL_act 85 = .ok (.invokevirtual 57, 3) := by decide +kernel
theorem dL_act_88 : decode cL_act 88 = .ok (.aload_n 0, 1) := by decide +kernel
theorem dL_act_89 : decode cL_act 89 = .ok (.iload_n 2, 1) := by decide +kernel
theorem dL_act_90 : decode cL_act 90 = .ok (.iconst 0, 1) := by decide +kernel
theorem dL_act_91 : decode cL_act 91 = .ok (.invokevirtual 59, 3) := by decide +kernel
theorem dL_act_94 : decode cL_act 94 = .ok (.if_icmp .ne 7, 3) := by decide +kernel
theorem dL_act_97 : decode cL_act 97 = .ok (.iconst 1, 1) := by decide +kernel
theorem dL_act_98 : decode cL_act 98 = .ok (.goto 4, 3) := by decide +kernel
theorem dL_act_101 : decode cL_act 101 = .ok (.iconst 0, 1) := by decide +kernel
theorem dL_act_102 : decode cL_act 102 = .ok (.ireturn, 1) := by decide +kernel
theorem dL_act_103 : decode cL_act 103 = .ok (.aload_n 0, 1) := by decide +kernel
theorem dL_act_104 : decode cL_act 104 = .ok (.iload_n 2, 1) := by decide +kernel
theorem dL_act_105 : decode cL_act 105 = .ok (.iconst 0, 1) := by decide +kernel
theorem dL_act_106 : decode cL_act 106 = .ok (.invokevirtual 59, 3) := by decide +kernel
theorem dL_act_109 : decode cL_act 109 = .ok (.istore 5, 2) := by decide +kernel
theorem dL_act_111 : decode cL_act 111 = .ok (.iload 5, 2) := by decide +kernel
theorem dL_act_113 : decode cL_act 113 = .ok (.ifCond .ne 7, 3) := by decide +kernel
theorem dL_act_116 : decode cL_act 116 = .ok (.iconst (-1), 1) := by decide +kernel
theorem dL_act_117 : decode cL_act 117 = .ok (.goto 12, 3) := by decide +kernel
theorem dL_act_120 : decode cL_act 120 = .ok (.aload_n 0, 1) := by decide +kernel
theorem dL_act_121 : decode cL_act 121 = .ok (.iload_n 2, 1) := by decide +kernel
theorem dL_act_122 : decode cL_act 122 = .ok (.iload 5, 2) := by decide +kernel
theorem dL_act_124 : decode cL_act 124 = .ok (.iconst 1, 1) := by decide +kernel
theorem dL_act_125 : decode cL_act 125 = .ok (.isub, 1) := by decide +kernel
theorem dL_act_126 : decode cL_act 126 = .ok (.invokevirtual 62, 3) := by decide +kernel
theorem dL_act_129 : decode cL_act 129 = .ok (.istore 6, 2) := by decide +kernel
theorem dL_act_131 : decode cL_act 131 = .ok (.aload_n 0, 1) := by decide +kernel
theorem dL_act_132 : decode cL_act 132 = .ok (.iload_n 2, 1) := by decide +kernel
theorem dL_act_133 : decode cL_act 133 = .ok (.invokevirtual 65, 3) := by decide +kernel
theorem dL_act_136 : decode cL_act 136 = .ok (.iload 6, 2) := by decide +kernel
theorem dL_act_138 : decode cL_act 138 = .ok (.if_icmp .ne 20, 3) := by decide +kernel
theorem dL_act_141 : decode cL_act 141 = .ok (.aload_n 0, 1) := by decide +kernel
theorem dL_act_142 : decode cL_act 142 = .ok (.iload_n 2, 1) := by decide +kernel
theorem dL_act_143 : decode cL_act 143 = .ok (.iconst 0, 1) := by decide +kernel
theorem dL_act_144 : decode cL_act 144 = .ok (.invokevirtual 59, 3) := by decide +kernel
theorem dL_act_147 : decode cL_act 147 = .ok (.iload 5, 2) := by decide +kernel
theorem dL_act_149 : decode cL_act 149 = .ok (.iconst 1, 1) := by decide +kernel
theorem dL_act_150 : decode cL_act 150 = .ok (.isub, 1) := by decide +kernel
theorem dL_act_151 : decode cL_act 151 = .ok (.if_icmp .ne 7, 3) := by decide +kernel
theorem dL_act_154 : decode cL_act 154 = .ok (.iconst 1, 1) := by decide +kernel
theorem dL_act_155 : decode cL_act 155 = .ok (.goto 4, 3) := by decide +kernel
theorem dL_act_158 : decode cL_act 158 = .ok (.iconst 0, 1) := by decide +kernel
theorem dL_act_159 : decode cL_act 159 = .ok (.ireturn, 1) := by decide +kernel
theorem dL_act_160 : decode cL_act 160 = .ok (.aload_n 0, 1) := by decide +kernel
theorem dL_act_161 : decode cL_act 161 = .ok (.iload_n 2, 1) := by decide +kernel
theorem dL_act_162 : decode cL_act 162 = .ok (.iload_n 1, 1) := by decide +kernel
theorem dL_act_163 : decode cL_act 163 = .ok (.iconst 5, 1) := by decide +kernel
theorem dL_act_164 : decode cL_act 164 = .ok (.ishr, 1) := by decide +kernel
theorem dL_act_165 : decode cL_act 165 = .ok (.iconst 4, 1) := by decide +kernel
theorem dL_act_166 : decode cL_act 166 = .ok (.invokestatic 29, 3) := by decide +kernel
theorem dL_act_169 : decode cL_act 169 = .ok (.iload_n 1, 1) := by decide +kernel
theorem dL_act_170 : decode cL_act 170 = .ok (.bipush 7, 2) := by decide +kernel
theorem dL_act_172 : decode cL_act 172 = .ok (.ishr, 1) := by decide +kernel
theorem dL_act_173 : decode cL_act 173 = .ok (.iconst 4, 1) := by decide +kernel
theorem dL_act_174 : decode cL_act 174 = .ok (.invokestatic 29, 3) := by decide +kernel
theorem dL_act_177 : decode cL_act 177 = .ok (.invokevirtual 68, 3) := by decide +kernel
theorem dL_act_180 : decode cL_act 180 = .ok (.istore 7, 2) := by decide +kernel
theorem dL_act_182 : decode cL_act 182 = .ok (.aload_n 0, 1) := by decide +kernel
theorem dL_act_183 : decode cL_act 183 = .ok (.iload_n 2, 1) := by decide +kernel
theorem dL_act_184 : decode cL_act 184 = .ok (.iload_n 1, 1) := by decide +kernel
theorem dL_act_185 : decode cL_act 185 = .ok (.iconst 5, 1) := by decide +kernel
theorem dL_act_186 : decode cL_act 186 = .ok (.ishr, 1) := by decide +kernel
theorem dL_act_187 : decode cL_act 187 = .ok (.iconst 4, 1) := by decide +kernel
theorem dL_act_188 : decode cL_act 188 = .ok (.invokestatic 29, 3) := by decide +kernel
theorem dL_act_191 : decode cL_act 191 = .ok (.iload_n 1, 1) := by decide +kernel
theorem dL_act_192 : decode cL_act 192 = .ok (.bipush 7, 2) := by decide +kernel
theorem dL_act_194 : decode cL_act 194 = .ok (.ishr, 1) := by decide +kernel
theorem dL_act_195 : decode cL_act 195 = .ok (.iconst 4, 1) := by decide +kernel
theorem dL_act_196 : decode cL_act 196 = .ok (.invokestatic 29, 3) := by decide +kernel
theorem dL_act_199 : decode cL_act 199 = .ok (.invokevirtual 71, 3) := by decide +kernel
theorem dL_act_202 : decode cL_act 202 = .ok (.iload 7, 2) := by decide +kernel
theorem dL_act_204 : decode cL_act 204 = .ok (.if_icmp .ne 59, 3) := by decide +kernel
theorem dL_act_207 : decode cL_act 207 = .ok (.aload_n 0, 1) := by decide +kernel
theorem dL_act_208 : decode cL_act 208 = .ok (.iconst 0, 1) := by decide +kernel
theorem dL_act_209 : decode cL_act 209 = .ok (.invokevirtual 33, 3) := by decide +kernel
theorem dL_act_212 : decode cL_act 212 = .ok (.aload_n 0, 1) := by decide +kernel
theorem dL_act_213 : decode cL_act 213 = .ok (.iconst 1, 1) := by decide +kernel
theorem dL_act_214 : decode cL_act 214 = .ok (.invokevirtual 33, 3) := by decide +kernel
theorem dL_act_217 : decode cL_act 217 = .ok (.isub, 1) := by decide +kernel
theorem dL_act_218 : decode cL_act 218 = .ok (.iload 4, 2) := by decide +kernel
theorem dL_act_220 : decode cL_act 220 = .ok (.iload 7, 2) := by decide +kernel
theorem dL_act_222 : decode cL_act 222 = .ok (.iadd, 1) := by decide +kernel
theorem dL_act_223 : decode cL_act 223 = .ok (.if_icmp .ne 40, 3) := by decide +kernel
theorem dL_act_226 : decode cL_act 226 = .ok (.aload_n 0, 1) := by decide +kernel
theorem dL_act_227 : decode cL_act 227 = .ok (.iload_n 2, 1) := by decide +kernel
theorem dL_act_228 : decode cL_act 228 = .ok (.iconst 1, 1) := by decide +kernel
theorem dL_act_229 : decode cL_act 229 = .ok (.invokevirtual 59, 3) := by decide +kernel
theorem dL_act_232 : decode cL_act 232 = .ok (.iload_n 1, 1) := by decide +kernel
theorem dL_act_233 : decode cL_act 233 = .ok (.iconst 5, 1) := by decide +kernel
theorem dL_act_234 : decode cL_act 234 = .ok (.ishr, 1) := by decide +kernel
theorem dL_act_235 : decode cL_act 235 = .ok (.iconst 4, 1) := by decide +kernel
theorem dL_act_236 : decode cL_act 236 = .ok (.invokestatic 29, 3) := by decide +kernel
theorem dL_act_239 : decode cL_act 239 = .ok (.if_icmp .ne 24, 3) := by decide +kernel
theorem dL_act_242 : decode cL_act 242 = .ok (.aload_n 0, 1) := by decide +kernel
theorem dL_act_243 : decode cL_act 243 = .ok (.iload_n 2, 1) := by decide +kernel
theorem dL_act_244 : decode cL_act 244 = .ok (.iconst 2, 1) := by decide +kernel
theorem dL_act_245 : decode cL_act 245 = .ok (.invokevirtual 59, 3) := by decide +kernel
theorem dL_act_248 : decode cL_act 248 = .ok (.iload_n 1, 1) := by decide +kernel
theorem dL_act_249 : decode cL_act 249 = .ok (.bipush 7, 2) := by decide +kernel
theorem dL_act_251 : decode cL_act 251 = .ok (.ishr, 1) := by decide +kernel
theorem dL_act_252 : decode cL_act 252 = .ok (.iconst 4, 1) := by decide +kernel
theorem dL_act_253 : decode cL_act 253 = .ok (.invokestatic 29, 3) := by decide +kernel
theorem dL_act_256 : decode cL_act 256 = .ok (.if_icmp .ne 7, 3) := by decide +kernel
theorem dL_act_259 : decode cL_act 259 = .ok (.iconst 1, 1) := by decide +kernel
theorem dL_act_260 : decode cL_act 260 = .ok (.goto 4, 3) := by decide +kernel
theorem dL_act_263 : decode cL_act 263 = .ok (.iconst 0, 1) := by decide +kernel
theorem dL_act_264 : decode cL_act 264 = .ok (.ireturn, 1) := by decide +kernel
theorem dL_act_265 : decode cL_act 265 = .ok (.aload_n 0, 1) := by decide +kernel
theorem dL_act_266 : decode cL_act 266 = .ok (.iload_n 2, 1) := by decide +kernel
theorem dL_act_267 : decode cL_act 267 = .ok (.invokevirtual 74, 3) := by decide +kernel
theorem dL_act_270 : decode cL_act 270 = .ok (.ifCond .lt 15, 3) := by decide +kernel
theorem dL_act_273 : decode cL_act 273 = .ok (.aload_n 0, 1) := by decide +kernel
theorem dL_act_274 : decode cL_act 274 = .ok (.iload_n 2, 1) := by decide +kernel
theorem dL_act_275 : decode cL_act 275 = .ok (.invokevirtual 74, 3) := by decide +kernel
theorem dL_act_278 : decode cL_act 278 = .ok (.ifCond .ne 7, 3) := by decide +kernel
theorem dL_act_281 : decode cL_act 281 = .ok (.iconst 1, 1) := by decide +kernel
theorem dL_act_282 : decode cL_act 282 = .ok (.goto 4, 3) := by decide +kernel
theorem dL_act_285 : decode cL_act 285 = .ok (.iconst 0, 1) := by decide +kernel
theorem dL_act_286 : decode cL_act 286 = .ok (.ireturn, 1) := by decide +kernel
theorem dL_act_287 : decode cL_act 287 = .ok (.aload_n 0, 1) := by decide +kernel
theorem dL_act_288 : decode cL_act 288 = .ok (.iload_n 2, 1) := by decide +kernel
theorem dL_act_289 : decode cL_act 289 = .ok (.iconst 1, 1) := by decide +kernel
theorem dL_act_290 : decode cL_act 290 = .ok (.invokevirtual 77, 3) := by decide +kernel
theorem dL_act_293 : decode cL_act 293 = .ok (.aload_n 0, 1) := by decide +kernel
theorem dL_act_294 : decode cL_act 294 = .ok (.iconst 0, 1) := by decide +kernel
theorem dL_act_295 : decode cL_act 295 = .ok (.invokevirtual 33, 3) := by decide +kernel
theorem dL_act_298 : decode cL_act 298 = .ok (.aload_n 0, 1) := by decide +kernel
theorem dL_act_299 : decode cL_act 299 = .ok (.iconst 1, 1) := by decide +kernel
theorem dL_act_300 : decode cL_act 300 = .ok (.invokevirtual 33, 3) := by decide +kernel
theorem dL_act_303 : decode cL_act 303 = .ok (.isub, 1) := by decide +kernel
theorem dL_act_304 : decode cL_act 304 = .ok (.iload 4, 2) := by decide +kernel
theorem dL_act_306 : decode cL_act 306 = .ok (.if_icmp .ne 7, 3) := by decide +kernel
theorem dL_act_309 : decode cL_act 309 = .ok (.iconst 1, 1) := by decide +kernel
theorem dL_act_310 : decode cL_act 310 = .ok (.goto 4, 3) := by decide +kernel
theorem dL_act_313 : decode cL_act 313 = .ok (.iconst 0, 1) := by decide +kernel
theorem dL_act_314 : decode cL_act 314 = .ok (.if_icmp .ne 17, 3) := by decide +kernel
theorem dL_act_317 : decode cL_act 317 = .ok (.aload_n 0, 1) := by decide +kernel
theorem dL_act_318 : decode cL_act 318 = .ok (.iload_n 2, 1) := by decide +kernel
theorem dL_act_319 : decode cL_act 319 = .ok (.iconst 3, 1) := by decide +kernel
theorem dL_act_320 : decode cL_act 320 = .ok (.invokevirtual 59, 3) := by decide +kernel
theorem dL_act_323 : decode cL_act 323 = .ok (.iconst 1, 1) := by decide +kernel
theorem dL_act_324 : decode cL_act 324 = .ok (.if_icmp .ne 7, 3) := by decide +kernel
theorem dL_act_327 : decode cL_act 327 = .ok (.iconst 1, 1) := by decide +kernel
theorem dL_act_328 : decode cL_act 328 = .ok (.goto 4, 3) := by decide +kernel
theorem dL_act_331 : decode cL_act 331 = .ok (.iconst 0, 1) := by decide +kernel
theorem dL_act_332 : decode cL_act 332 = .ok (.ireturn, 1) := by decide +kernel
theorem dL_act_333 : decode cL_act 333 = .ok (.aload_n 0, 1) := by decide +kernel
theorem dL_act_334 : decode cL_act 334 = .ok (.iconst 1, 1) := by decide +kernel
theorem dL_act_335 : decode cL_act 335 = .ok (.iload_n 1, 1) := by decide +kernel
theorem dL_act_336 : decode cL_act 336 = .ok (.iconst 4, 1) := by decide +kernel
theorem dL_act_337 : decode cL_act 337 = .ok (.ishr, 1) := by decide +kernel
theorem dL_act_338 : decode cL_act 338 = .ok (.iconst 3, 1) := by decide +kernel
theorem dL_act_339 : decode cL_act 339 = .ok (.invokestatic 29, 3) := by decide +kernel
theorem dL_act_342 : decode cL_act 342 = .ok (.iadd, 1) := by decide +kernel
theorem dL_act_343 : decode cL_act 343 = .ok (.invokevirtual 81, 3) := by decide +kernel
theorem dL_act_346 : decode cL_act 346 = .ok (.iload 4, 2) := by decide +kernel
theorem dL_act_348 : decode cL_act 348 = .ok (.aload_n 0, 1) := by decide +kernel
theorem dL_act_349 : decode cL_act 349 = .ok (.iconst 0, 1) := by decide +kernel
theorem dL_act_350 : decode cL_act 350 = .ok (.invokevirtual 33, 3) := by decide +kernel
theorem dL_act_353 : decode cL_act 353 = .ok (.isub, 1) := by decide +kernel
theorem dL_act_354 : decode cL_act 354 = .ok (.aload_n 0, 1) := by decide +kernel
theorem dL_act_355 : decode cL_act 355 = .ok (.iconst 1, 1) := by decide +kernel
theorem dL_act_356 : decode cL_act 356 = .ok (.invokevirtual 33, 3) := by decide +kernel
theorem dL_act_359 : decode cL_act 359 = .ok (.iadd, 1) := by decide +kernel
theorem dL_act_360 : decode cL_act 360 = .ok (.if_icmp .ne 7, 3) := by decide +kernel
theorem dL_act_363 : decode cL_act 363 = .ok (.iconst 1, 1) := by decide +kernel
theorem dL_act_364 : decode cL_act 364 = .ok (.goto 4, 3) := by decide +kernel
theorem dL_act_367 : decode cL_act 367 = .ok (.iconst 0, 1) := by decide +kernel
theorem dL_act_368 : decode cL_act 368 = .ok (.ireturn, 1) := by decide +kernel
theorem dL_act_369 : decode cL_act 369 = .ok (.aload_n 0, 1) := by decide +kernel
theorem dL_act_370 : decode cL_act 370 = .ok (.iload_n 1, 1) := by decide +kernel
theorem dL_act_371 : decode cL_act 371 = .ok (.iconst 4, 1) := by decide +kernel
theorem dL_act_372 : decode cL_act 372 = .ok (.ishr, 1) := by decide +kernel
theorem dL_act_373 : decode cL_act 373 = .ok (.bipush 21, 2) := by decide +kernel
theorem dL_act_375 : decode cL_act 375 = .ok (.invokestatic 29, 3) := by decide +kernel
theorem dL_act_378 : decode cL_act 378 = .ok (.invokevirtual 84, 3) := by decide +kernel
theorem dL_act_381 : decode cL_act 381 = .ok (.bipush 20, 2) := by decide +kernel
theorem dL_act_383 : decode cL_act 383 = .ok (.if_icmp .gt 7, 3) := by decide +kernel
theorem dL_act_386 : decode cL_act 386 = .ok (.iconst 1, 1) := by decide +kernel
theorem dL_act_387 : decode cL_act 387 = .ok (.goto 4, 3) := by decide +kernel
theorem dL_act_390 : decode cL_act 390 = .ok (.iconst 0, 1) := by decide +kernel
theorem dL_act_391 : decode cL_act 391 = .ok (.ireturn, 1) := by decide +kernel
theorem dL_act_392 : decode cL_act 392 = .ok (.aload_n 0, 1) := by decide +kernel
theorem dL_act_393 : decode cL_act 393 = .ok (.iload_n 1, 1) := by decide +kernel
theorem dL_act_394 : decode cL_act 394 = .ok (.iload_n 2, 1) := by decide +kernel
theorem dL_act_395 : decode cL_act 395 = .ok (.aload_n 3, 1) := by decide +kernel
theorem dL_act_396 : decode cL_act 396 = .ok (.invokestatic 87, 3) := by decide +kernel
theorem dL_act_399 : decode cL_act 399 = .ok (.ireturn, 1) := by decide +kernel
theorem dL_act_400 : decode cL_act 400 = .ok (.astore 5, 2) := by decide +kernel
theorem dL_act_402 : decode cL_act 402 = .ok (.iload_n 1, 1) := by decide +kernel
theorem dL_act_403 : decode cL_act 403 = .ok (.bipush 11, 2) := by decide +kernel
theorem dL_act_405 : decode cL_act 405 = .ok (.invokestatic 29, 3) := by decide +kernel
theorem dL_act_408 : decode cL_act 408 = .ok (.iconst 2, 1) := by decide +kernel
theorem dL_act_409 : decode cL_act 409 = .ok (.if_icmp .lt 39, 3) := by decide +kernel
theorem dL_act_412 : decode cL_act 412 = .ok (.iload_n 1, 1) := by decide +kernel
theorem dL_act_413 : decode cL_act 413 = .ok (.bipush 11, 2) := by decide +kernel
theorem dL_act_415 : decode cL_act 415 = .ok (.invokestatic 29, 3) := by decide +kernel
theorem dL_act_418 : decode cL_act 418 = .ok (.iconst 5, 1) := by decide +kernel
theorem dL_act_419 : decode cL_act 419 = .ok (.if_icmp .ne 33, 3) := by decide +kernel
theorem dL_act_422 : decode cL_act 422 = .ok (.aload_n 0, 1) := by decide +kernel
theorem dL_act_423 : decode cL_act 423 = .ok (.iload_n 2, 1) := by decide +kernel
theorem dL_act_424 : decode cL_act 424 = .ok (.iconst 3, 1) := by decide +kernel
theorem dL_act_425 : decode cL_act 425 = .ok (.invokevirtual 59, 3) := by decide +kernel
theorem dL_act_428 : decode cL_act 428 = .ok (.ifCond .ne 24, 3) := by decide +kernel
theorem dL_act_431 : decode cL_act 431 = .ok (.aload_n 0, 1) := by decide +kernel
theorem dL_act_432 : decode cL_act 432 = .ok (.iload_n 2, 1) := by decide +kernel
theorem dL_act_433 : decode cL_act 433 = .ok (.iconst 4, 1) := by decide +kernel
theorem dL_act_434 : decode cL_act 434 = .ok (.invokevirtual 59, 3) := by decide +kernel
theorem dL_act_437 : decode cL_act 437 = .ok (.aload_n 0, 1) := by decide +kernel
theorem dL_act_438 : decode cL_act 438 = .ok (.iload_n 2, 1) := by decide +kernel
theorem dL_act_439 : decode cL_act 439 = .ok (.bipush 6, 2) := by decide +kernel
theorem dL_act_441 : decode cL_act 441 = .ok (.invokevirtual 59, 3) := by decide +kernel
theorem dL_act_444 : decode cL_act 444 = .ok (.iadd, 1) := by decide +kernel
theorem dL_act_445 : decode cL_act 445 = .ok (.ifCond .le 7, 3) := by decide +kernel
theorem dL_act_448 : decode cL_act 448 = .ok (.iconst 1, 1) := by decide +kernel
theorem dL_act_449 : decode cL_act 449 = .ok (.goto 4, 3) := by decide +kernel
theorem dL_act_452 : decode cL_act 452 = .ok (.iconst 0, 1) := by decide +kernel
theorem dL_act_453 : decode cL_act 453 = .ok (.ireturn, 1) := by decide +kernel
