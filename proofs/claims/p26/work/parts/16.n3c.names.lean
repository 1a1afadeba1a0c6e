set_option maxRecDepth 20000 in
theorem ggL_isRunRight_X5_latest : GoodIn wsL_isRunRight wsX5_latest := goodIn_ca (goodIn_r _ [232, 15, 233, 19, 20, 9, 21, 22, 23, 270, 271, 272, 273, 279, 280, 281, 282, 283, 284] (by decide +kernel) (by decide +kernel)) (goodIn_sub (fun _ h => List.mem_cons_of_mem _ (List.mem_append_left _ (List.mem_append_right _ h))) (by decide +kernel))
set_option maxRecDepth 20000 in
theorem gL_isRunRight_X5_latest : GoodIn wsL_isRunRight (wsV RL 101 RX5 yX5_latest wsX5_latest) := goodIn_app (goodIn_of _ (by decide +kernel)) ggL_isRunRight_X5_latest
set_option maxRecDepth 20000 in
theorem ggL_isRunRight_X5_ofFunction : GoodIn wsL_isRunRight wsX5_ofFunction := goodIn_ca (goodIn_ca (goodIn_r _ [237, 11, 238, 239, 240, 241, 13, 242, 243, 244, 15, 106, 107, 108, 9, 109, 110, 111, 12, 19, 20, 21, 22, 23, 245, 93, 94, 246, 38, 39, 34, 40, 41, 42, 43, 44, 45, 46, 47, 48, 49, 50, 51, 52, 53, 54, 55, 56, 57, 58, 59, 60, 61, 62, 63, 64, 65, 66, 67, 68, 69, 70, 71, 72, 247, 248, 249, 250, 251, 252, 253, 254, 255, 256, 257, 258, 36, 259, 260, 261, 262, 263, 264, 265, 266, 267, 268, 201, 269, 217, 270, 271, 272, 273, 274, 275, 276, 277, 278, 285, 286, 287, 288, 289, 290, 291, 279, 280, 281, 282, 283, 284] (by decide +kernel) (by decide +kernel)) (goodIn_sub (fun _ h => List.mem_cons_of_mem _ (List.mem_append_right _ h)) (by decide +kernel))) (goodIn_sub (fun _ h => List.mem_cons_of_mem _ (List.mem_append_left _ (List.mem_append_right _ h))) (by decide +kernel))
set_option maxRecDepth 20000 in
theorem gL_isRunRight_X5_ofFunction : GoodIn wsL_isRunRight (wsV RL 59 RX5 yX5_ofFunction wsX5_ofFunction) := goodIn_app (goodIn_of _ (by decide +kernel)) ggL_isRunRight_X5_ofFunction
theorem dL_isRunRight_0 : decode cL_isRunRight 0 = .ok (.iload_n 1, 1) := by decide +kernel
theorem dL_isRunRight_1 : decode cL_isRunRight 1 = .ok (.iconst 5, 1) := by decide +kernel
theorem dL_isRunRight_2 : decode cL_isRunRight 2 = .ok (.ishr, 1) := by decide +kernel
theorem dL_isRunRight_3 : decode cL_isRunRight 3 = .ok (.iconst 3, 1) := by decide +kernel
theorem dL_isRunRight_4 : decode cL_isRunRight 4 = .ok (.invokestatic 29, 3) := by decide +kernel
theorem dL_isRunRight_7 : decode cL_isRunRight 7 = .ok (.istore 4, 2) := by decide +kernel
theorem dL_isRunRight_9 : decode cL_isRunRight 9 = .ok (.iload 4, 2) := by decide +kernel
theorem dL_isRunRight_11 : decode cL_isRunRight 11 = .ok (.ifCond .ne 18, 3) := by decide +kernel
theorem dL_isRunRight_14 : decode cL_isRunRight 14 = .ok (.iload_n 1, 1) := by decide +kernel
theorem dL_isRunRight_15 : decode cL_isRunRight 15 = .ok (.bipush 6, 2) := by decide +kernel
theorem dL_isRunRight_17 : decode cL_isRunRight 17 = .ok (.ishr, 1) := by decide +kernel
theorem dL_isRunRight_18 : decode cL_isRunRight 18 = .ok (.bipush 50, 2) := by decide +kernel
theorem dL_isRunRight_20 : decode cL_isRunRight 20 = .ok (.invokestatic 29, 3) := by decide +kernel
theorem dL_isRunRight_23 : decode cL_isRunRight 23 = .ok (.bipush 25, 2) := by decide +kernel
theorem dL_isRunRight_25 : decode cL_isRunRight 25 = .ok (.isub, 1) := by decide +kernel
theorem dL_isRunRight_26 : decode cL_isRunRight 26 = .ok (.goto 29, 3) := by decide +kernel
theorem dL_isRunRight_29 : decode cL_isRunRight 29 = .ok (.iload 4, 2) := by decide +kernel
theorem dL_isRunRight_31 : decode cL_isRunRight 31 = .ok (.iconst 1, 1) := by decide +kernel
theorem dL_isRunRight_32 : decode cL_isRunRight 32 = .ok (.if_icmp .ne 15, 3) := by decide +kernel
theorem dL_isRunRight_35 : decode cL_isRunRight 35 = .ok (.iload_n 1, 1) := by decide +kernel
theorem dL_isRunRight_36 : decode cL_isRunRight 36 = .ok (.bipush 6, 2) := by decide +kernel
theorem dL_isRunRight_38 : decode cL_isRunRight 38 = .ok (.ishr, 1) := by decide +kernel
theorem dL_isRunRight_39 : decode cL_isRunRight 39 = .ok (.bipush 50, 2) := by decide +kernel
theorem dL_isRunRight_41 : decode cL_isRunRight 41 = .ok (.invokestatic 29, 3) := by decide +kernel
theorem dL_isRunRight_44 : decode cL_isRunRight 44 = .ok (.goto 11, 3) := by decide +kernel
theorem dL_isRunRight_47 : decode cL_isRunRight 47 = .ok (.iload_n 1, 1) := by decide +kernel
theorem dL_isRunRight_48 : decode cL_isRunRight 48 = .ok (.bipush 6, 2) := by decide +kernel
theorem dL_isRunRight_50 : decode cL_isRunRight 50 = .ok (.ishr, 1) := by decide +kernel
theorem dL_isRunRight_51 : decode cL_isRunRight 51 = .ok (.iconst 2, 1) := by decide +kernel
theorem dL_isRunRight_52 : decode cL_isRunRight 52 = .ok (.invokestatic 29, 3) := by decide +kernel
theorem dL_isRunRight_55 : decode cL_isRunRight 55 = .ok (.istore 5, 2) := by decide +kernel
theorem dL_isRunRight_57 : decode cL_isRunRight 57 = .ok (.aload_n 0, 1) := by decide +kernel
theorem dL_isRunRight_58 : decode cL_isRunRight 58 = .ok (.bipush 7, 2) := by decide +kernel
theorem dL_isRunRight_60 : decode cL_isRunRight 60 = .ok (.invokevirtual 33, 3) := by decide +kernel
theorem dL_isRunRight_63 : decode cL_isRunRight 63 = .ok (.istore 6, 2) := by decide +kernel
theorem dL_isRunRight_65 : decode cL_isRunRight 65 = .ok (.aload_n 0, 1) := by decide +kernel
theorem dL_isRunRight_66 : decode cL_isRunRight 66 = .ok (.iconst (-1), 1) := by decide +kernel
theorem dL_isRunRight_67 : decode cL_isRunRight 67 = .ok (.iload_n 2, 1) := by decide +kernel
theorem dL_isRunRight_68 : decode cL_isRunRight 68 = .ok (.invokevirtual 92, 3) := by decide +kernel
theorem dL_isRunRight_71 : decode cL_isRunRight 71 = .ok (.istore 7, 2) := by decide +kernel
theorem dL_isRunRight_73 : decode cL_isRunRight 73 = .ok (.aload_n 0, 1) := by decide +kernel
theorem dL_isRunRight_74 : decode cL_isRunRight 74 = .ok (.iload_n 2, 1) := by decide +kernel
theorem dL_isRunRight_75 : decode cL_isRunRight 75 = .ok (.iload 4, 2) := by decide +kernel
theorem dL_isRunRight_77 : decode cL_isRunRight 77 = .ok (.iload 5, 2) := by decide +kernel
theorem dL_isRunRight_79 : decode cL_isRunRight 79 = .ok (.invokevirtual 95, 3) := by decide +kernel
theorem dL_isRunRight_82 : decode cL_isRunRight 82 = .ok (.istore 8, 2) := by decide +kernel
theorem dL_isRunRight_84 : decode cL_isRunRight 84 = .ok (.aload_n 0, 1) := by decide +kernel
theorem dL_isRunRight_85 : decode cL_isRunRight 85 = .ok (.iload_n 2, 1) := by decide +kernel
theorem dL_isRunRight_86 : decode cL_isRunRight 86 = .ok (.iload 4, 2) := by decide +kernel
theorem dL_isRunRight_88 : decode cL_isRunRight 88 = .ok (.iload 5, 2) := by decide +kernel
theorem dL_isRunRight_90 : decode cL_isRunRight 90 = .ok (.invokevirtual 98, 3) := by decide +kernel
theorem dL_isRunRight_93 : decode cL_isRunRight 93 = .ok (.istore 9, 2) := by decide +kernel
theorem dL_isRunRight_95 : decode cL_isRunRight 95 = .ok (.aload_n 0, 1) := by decide +kernel
theorem dL_isRunRight_96 : decode cL_isRunRight 96 = .ok (.iconst 1, 1) := by decide +kernel
theorem dL_isRunRight_97 : decode cL_isRunRight 97 = .ok (.invokevirtual 101, 3) := by decide +kernel
theorem dL_isRunRight_100 : decode cL_isRunRight 100 = .ok (.istore 10, 2) := by decide +kernel
theorem dL_isRunRight_102 : decode cL_isRunRight 102 = .ok (.iload 9, 2) := by decide +kernel
theorem dL_isRunRight_104 : decode cL_isRunRight 104 = .ok (.aload_n 0, 1) := by decide +kernel
theorem dL_isRunRight_105 : decode cL_isRunRight 105 = .ok (.iconst 0, 1) := by decide +kernel
theorem dL_isRunRight_106 : decode cL_isRunRight 106 = .ok (.invokevirtual 101, 3) := by decide +kernel
theorem dL_isRunRight_109 : decode cL_isRunRight 109 = .ok (.if_icmp .ne 76, 3) := by decide +kernel
theorem dL_isRunRight_112 : decode cL_isRunRight 112 = .ok (.iload 10, 2) := by decide +kernel
theorem dL_isRunRight_114 : decode cL_isRunRight 114 = .ok (.iload 8, 2) := by decide +kernel
theorem dL_isRunRight_116 : decode cL_isRunRight 116 = .ok (.if_icmp .ne 69, 3) := by decide +kernel
theorem dL_isRunRight_119 : decode cL_isRunRight 119 = .ok (.aload_n 0, 1) := by decide +kernel
theorem dL_isRunRight_120 : decode cL_isRunRight 120 = .ok (.iconst (-1), 1) := by decide +kernel
theorem dL_isRunRight_121 : decode cL_isRunRight 121 = .ok (.iload_n 2, 1) := by decide +kernel
theorem dL_isRunRight_122 : decode cL_isRunRight 122 = .ok (.invokevirtual 92, 3) := by decide +kernel
theorem dL_isRunRight_125 : decode cL_isRunRight 125 = .ok (.iload 7, 2) := by decide +kernel
theorem dL_isRunRight_127 : decode cL_isRunRight 127 = .ok (.iconst 1, 1) := by decide +kernel
theorem dL_isRunRight_128 : decode cL_isRunRight 128 = .ok (.iadd, 1) := by decide +kernel
theorem dL_isRunRight_129 : decode cL_isRunRight 129 = .ok (.if_icmp .ne 56, 3) := by decide +kernel
theorem dL_isRunRight_132 : decode cL_isRunRight 132 = .ok (.aload_n 0, 1) := by decide +kernel
theorem dL_isRunRight_133 : decode cL_isRunRight 133 = .ok (.bipush 7, 2) := by decide +kernel
theorem dL_isRunRight_135 : decode cL_isRunRight 135 = .ok (.invokevirtual 33, 3) := by decide +kernel
theorem dL_isRunRight_138 : decode cL_isRunRight 138 = .ok (.iload 6, 2) := by decide +kernel
theorem dL_isRunRight_140 : decode cL_isRunRight 140 = .ok (.aload_n 0, 1) := by decide +kernel
theorem dL_isRunRight_141 : decode cL_isRunRight 141 = .ok (.iconst 2, 1) := by decide +kernel
theorem dL_isRunRight_142 : decode cL_isRunRight 142 = .ok (.invokevirtual 101, 3) := by decide +kernel
theorem dL_isRunRight_145 : decode cL_isRunRight 145 = .ok (.iadd, 1) := by decide +kernel
theorem dL_isRunRight_146 : decode cL_isRunRight 146 = .ok (.if_icmp .ne 39, 3) := by decide +kernel
theorem dL_isRunRight_149 : decode cL_isRunRight 149 = .ok (.aload_n 0, 1) := by decide +kernel
theorem dL_isRunRight_150 : decode cL_isRunRight 150 = .ok (.iconst 2, 1) := by decide +kernel
theorem dL_isRunRight_151 : decode cL_isRunRight 151 = .ok (.invokevirtual 101, 3) := by decide +kernel
theorem dL_isRunRight_154 : decode cL_isRunRight 154 = .ok (.iconst 2, 1) := by decide +kernel
theorem dL_isRunRight_155 : decode cL_isRunRight 155 = .ok (.aload_n 0, 1) := by decide +kernel
theorem dL_isRunRight_156 : decode cL_isRunRight 156 = .ok (.iconst 3, 1) := by decide +kernel
theorem dL_isRunRight_157 : decode cL_isRunRight 157 = .ok (.invokevirtual 101, 3) := by decide +kernel
theorem dL_isRunRight_160 : decode cL_isRunRight 160 = .ok (.imul, 1) := by decide +kernel
theorem dL_isRunRight_161 : decode cL_isRunRight 161 = .ok (.if_icmp .lt 24, 3) := by decide +kernel
theorem dL_isRunRight_164 : decode cL_isRunRight 164 = .ok (.aload_n 0, 1) := by decide +kernel
theorem dL_isRunRight_165 : decode cL_isRunRight 165 = .ok (.bipush 7, 2) := by decide +kernel
theorem dL_isRunRight_167 : decode cL_isRunRight 167 = .ok (.invokevirtual 101, 3) := by decide +kernel
theorem dL_isRunRight_170 : decode cL_isRunRight 170 = .ok (.iconst 1, 1) := by decide +kernel
theorem dL_isRunRight_171 : decode cL_isRunRight 171 = .ok (.if_icmp .lt 14, 3) := by decide +kernel
theorem dL_isRunRight_174 : decode cL_isRunRight 174 = .ok (.aload_n 0, 1) := by decide +kernel
theorem dL_isRunRight_175 : decode cL_isRunRight 175 = .ok (.bipush 7, 2) := by decide +kernel
theorem dL_isRunRight_177 : decode cL_isRunRight 177 = .ok (.invokevirtual 101, 3) := by decide +kernel
theorem dL_isRunRight_180 : decode cL_isRunRight 180 = .ok (.bipush 12, 2) := by decide +kernel
theorem dL_isRunRight_182 : decode cL_isRunRight 182 = .ok (.if_icmp .le 5, 3) := by decide +kernel
theorem dL_isRunRight_185 : decode cL_isRunRight 185 = .ok (.iconst 0, 1) := by decide +kernel
theorem dL_isRunRight_186 : decode cL_isRunRight 186 = .ok (.ireturn, 1) := by decide +kernel
theorem dL_isRunRight_187 : decode cL_isRunRight 187 = .ok (.iload 10, 2) := by decide +kernel
theorem dL_isRunRight_189 : decode cL_isRunRight 189 = .ok (.ifCond .lt 11, 3) := by decide +kernel
theorem dL_isRunRight_192 : decode cL_isRunRight 192 = .ok (.aload_n 3, 1) := by decide +kernel
theorem dL_isRunRight_193 : decode cL_isRunRight 193 = .ok (.iload 10, 2) := by decide +kernel
theorem dL_isRunRight_195 : decode cL_isRunRight 195 = .ok (.dup2, 1) := by decide +kernel
theorem dL_isRunRight_196 : decode cL_isRunRight 196 = .ok (.iaload, 1) := by decide +kernel
theorem dL_isRunRight_197 : decode cL_isRunRight 197 = .ok (.iconst 1, 1) := by decide +kernel
theorem dL_isRunRight_198 : decode cL_isRunRight 198 = .ok (.iadd, 1) := by decide +kernel
theorem dL_isRunRight_199 : decode cL_isRunRight 199 = .ok (.iastore, 1) := by decide +kernel
theorem dL_isRunRight_200 : decode cL_isRunRight 200 = .ok (.iload 10, 2) := by decide +kernel
theorem dL_isRunRight_202 : decode cL_isRunRight 202 = .ok (.ifCond .lt 27, 3) := by decide +kernel
theorem dL_isRunRight_205 : decode cL_isRunRight 205 = .ok (.iload 9, 2) := by decide +kernel
theorem dL_isRunRight_207 : decode cL_isRunRight 207 = .ok (.ifCond .eq 20, 3) := by decide +kernel
theorem dL_isRunRight_210 : decode cL_isRunRight 210 = .ok (.iload 9, 2) := by decide +kernel
theorem dL_isRunRight_212 : decode cL_isRunRight 212 = .ok (.iconst 3, 1) := by decide +kernel
theorem dL_isRunRight_213 : decode cL_isRunRight 213 = .ok (.if_icmp .gt 14, 3) := by decide +kernel
theorem dL_isRunRight_216 : decode cL_isRunRight 216 = .ok (.aload_n 0, 1) := by decide +kernel
theorem dL_isRunRight_217 : decode cL_isRunRight 217 = .ok (.iload 10, 2) := by decide +kernel
theorem dL_isRunRight_219 : decode cL_isRunRight 219 = .ok (.iconst 3, 1) := by decide +kernel
theorem dL_isRunRight_220 : decode cL_isRunRight 220 = .ok (.invokevirtual 59, 3) := by decide +kernel
theorem dL_isRunRight_223 : decode cL_isRunRight 223 = .ok (.iconst 1, 1) := by decide +kernel
theorem dL_isRunRight_224 : decode cL_isRunRight 224 = .ok (.if_icmp .ne 5, 3) := by decide +kernel
theorem dL_isRunRight_227 : decode cL_isRunRight 227 = .ok (.iconst 0, 1) := by decide +kernel
theorem dL_isRunRight_228 : decode cL_isRunRight 228 = .ok (.ireturn, 1) := by decide +kernel
theorem dL_isRunRight_229 : decode cL_isRunRight 229 = .ok (.iload 9, 2) := by decide +kernel
theorem dL_isRunRight_231 : decode cL_isRunRight 231 = .ok (.ifCond .ne 26, 3) := by decide +kernel
theorem dL_isRunRight_234 : decode cL_isRunRight 234 = .ok (.aload_n 0, 1) := by decide +kernel
theorem dL_isRunRight_235 : decode cL_isRunRight 235 = .ok (.iconst 5, 1) := by decide +kernel
theorem dL_isRunRight_236 : decode cL_isRunRight 236 = .ok (.invokevirtual 101, 3) := by decide +kernel
theorem dL_isRunRight_239 : decode cL_isRunRight 239 = .ok (.iconst 3, 1) := by decide +kernel
theorem dL_isRunRight_240 : decode cL_isRunRight 240 = .ok (.if_icmp .ge 13, 3) := by decide +kernel
theorem dL_isRunRight_243 : decode cL_isRunRight 243 = .ok (.iload 10, 2) := by decide +kernel
theorem dL_isRunRight_245 : decode cL_isRunRight 245 = .ok (.iconst (-1), 1) := by decide +kernel
theorem dL_isRunRight_246 : decode cL_isRunRight 246 = .ok (.if_icmp .ne 7, 3) := by decide +kernel
theorem dL_isRunRight_249 : decode cL_isRunRight 249 = .ok (.iconst 1, 1) := by decide +kernel
theorem dL_isRunRight_250 : decode cL_isRunRight 250 = .ok (.goto 30, 3) := by decide +kernel
theorem dL_isRunRight_253 : decode cL_isRunRight 253 = .ok (.iconst 0, 1) := by decide +kernel
theorem dL_isRunRight_254 : decode cL_isRunRight 254 = .ok (.goto 26, 3) := by decide +kernel
theorem dL_isRunRight_257 : decode cL_isRunRight 257 = .ok (.aload_n 0, 1) := by decide +kernel
theorem dL_isRunRight_258 : decode cL_isRunRight 258 = .ok (.iconst 5, 1) := by decide +kernel
theorem dL_isRunRight_259 : decode cL_isRunRight 259 = .ok (.invokevirtual 101, 3) := by decide +kernel
theorem dL_isRunRight_262 : decode cL_isRunRight 262 = .ok (.iconst 3, 1) := by decide +kernel
theorem dL_isRunRight_263 : decode cL_isRunRight 263 = .ok (.if_icmp .ne 16, 3) := by decide +kernel
theorem dL_isRunRight_266 : decode cL_isRunRight 266 = .ok (.aload_n 0, 1) := by decide +kernel
theorem dL_isRunRight_267 : decode cL_isRunRight 267 = .ok (.bipush 6, 2) := by decide +kernel
theorem dL_isRunRight_269 : decode cL_isRunRight 269 = .ok (.invokevirtual 101, 3) := by decide +kernel
theorem dL_isRunRight_272 : decode cL_isRunRight 272 = .ok (.ifCond .ne 7, 3) := by decide +kernel
theorem dL_isRunRight_275 : decode cL_isRunRight 275 = .ok (.iconst 1, 1) := by decide +kernel
theorem dL_isRunRight_276 : decode cL_isRunRight 276 = .ok (.goto 4, 3) := by decide +kernel
theorem dL_isRunRight_279 : decode cL_isRunRight 279 = .ok (.iconst 0, 1) := by decide +kernel
theorem dL_isRunRight_280 : decode cL_isRunRight 280 = .ok (.ireturn, 1) := by decide +kernel
