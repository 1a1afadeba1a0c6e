set_option maxRecDepth 20000 in
theorem ggL_areTollsRight_X5_ofFunction : GoodIn wsL_areTollsRight wsX5_ofFunction := goodIn_ca (goodIn_ca (goodIn_r _ [119, 15, 120, 121, 122, 123, 16, 124, 125, 126, 77, 127, 128, 129, 9, 130, 131, 132, 17, 99, 100, 101, 102, 103, 66, 67, 68, 133, 25, 26, 21, 27, 28, 29, 30, 31, 32, 33, 34, 35, 36, 37, 38, 39, 40, 41, 42, 43, 44, 45, 46, 47, 48, 49, 50, 51, 52, 53, 54, 55, 56, 57, 58, 59, 134, 135, 136, 137, 138, 139, 140, 141, 142, 143, 144, 145, 23, 146, 147, 148, 149, 150, 151, 152, 153, 154, 155, 156, 157, 158, 167, 168, 169, 170, 171, 172, 173, 174, 175, 176, 177, 178, 179, 180, 181, 182, 183, 184, 185, 186, 187, 188] (by decide +kernel) (by decide +kernel)) (goodIn_sub (fun _ h => List.mem_cons_of_mem _ (List.mem_append_right _ h)) (by decide +kernel))) (goodIn_sub (fun _ h => List.mem_cons_of_mem _ (List.mem_append_left _ (List.mem_append_right _ h))) (by decide +kernel))
set_option maxRecDepth 20000 in
theorem gL_areTollsRight_X5_ofFunction : GoodIn wsL_areTollsRight (wsV RL 59 RX5 yX5_ofFunction wsX5_ofFunction) := goodIn_app (goodIn_of _ (by decide +kernel)) ggL_areTollsRight_X5_ofFunction
set_option maxRecDepth 20000 in
theorem ggL_areTollsRight_X5_gain : GoodIn wsL_areTollsRight wsX5_gain := goodIn_ca (goodIn_r _ [162, 127, 128, 129, 9, 130, 131, 132, 15, 17, 69, 70, 71, 72, 16, 73, 74, 75, 76, 77, 78, 79, 80, 81, 21, 82, 28, 30, 67, 68, 83, 84, 85, 86, 33, 87, 88, 89, 90, 64, 65, 167, 168, 169, 170, 171, 172, 173, 174, 175, 183, 184, 185, 186, 187, 188, 176, 177, 178, 179] (by decide +kernel) (by decide +kernel)) (goodIn_sub (fun _ h => List.mem_cons_of_mem _ (List.mem_append_right _ h)) (by decide +kernel))
set_option maxRecDepth 20000 in
theorem gL_areTollsRight_X5_gain : GoodIn wsL_areTollsRight (wsV RL 112 RX5 yX5_gain wsX5_gain) := goodIn_app (goodIn_of _ (by decide +kernel)) ggL_areTollsRight_X5_gain
set_option maxRecDepth 20000 in
theorem ggL_areTollsRight_X5_tollAtBest : GoodIn wsL_areTollsRight wsX5_tollAtBest := goodIn_r _ [166, 15, 18, 19, 20, 21, 22, 23, 24, 25, 26, 27, 28, 29, 30, 31, 32, 33, 34, 35, 36, 37, 38, 39, 40, 41, 42, 43, 44, 45, 46, 9, 47, 48, 49, 50, 51, 52, 53, 54, 55, 56, 57, 58, 59, 60, 61, 62, 63, 64, 65, 73, 74, 75, 76, 17, 77, 78, 79, 80, 81, 82, 67, 68, 83, 84, 85, 86, 87, 88, 89, 167, 168, 169, 170, 171, 172, 173, 174, 175, 176, 177, 178, 179, 180, 181, 182, 183, 184, 185, 186, 187, 188] (by decide +kernel) (by decide +kernel)
set_option maxRecDepth 20000 in
theorem gL_areTollsRight_X5_tollAtBest : GoodIn wsL_areTollsRight (wsV RL 120 RX5 yX5_tollAtBest wsX5_tollAtBest) := goodIn_app (goodIn_of _ (by decide +kernel)) ggL_areTollsRight_X5_tollAtBest
theorem dL_areTollsRight_0 : decode cL_areTollsRight 0 = .ok (.aload_n 0, 1) := by decide +kernel
theorem dL_areTollsRight_1 : decode cL_areTollsRight 1 = .ok (.invokevirtual 107, 3) := by decide +kernel
theorem dL_areTollsRight_4 : decode cL_areTollsRight 4 = .ok (.istore_n 1, 1) := by decide +kernel
theorem dL_areTollsRight_5 : decode cL_areTollsRight 5 = .ok (.ldc 111, 2) := by decide +kernel
theorem dL_areTollsRight_7 : decode cL_areTollsRight 7 = .ok (.istore_n 2, 1) := by decide +kernel
theorem dL_areTollsRight_8 : decode cL_areTollsRight 8 = .ok (.iconst 0, 1) := by decide +kernel
theorem dL_areTollsRight_9 : decode cL_areTollsRight 9 = .ok (.istore_n 3, 1) := by decide +kernel
theorem dL_areTollsRight_10 : decode cL_areTollsRight 10 = .ok (.iload_n 3, 1) := by decide +kernel
theorem dL_areTollsRight_11 : decode cL_areTollsRight 11 = .ok (.aload_n 0, 1) := by decide +kernel
theorem dL_areTollsRight_12 : decode cL_areTollsRight 12 = .ok (.iconst 0, 1) := by decide +kernel
theorem dL_areTollsRight_13 : decode cL_areTollsRight 13 = .ok (.invokevirtual 33, 3) := by decide +kernel
theorem dL_areTollsRight_16 : decode cL_areTollsRight 16 = .ok (.if_icmp .ge 77, 3) := by decide +kernel
theorem dL_areTollsRight_19 : decode cL_areTollsRight 19 = .ok (.aload_n 0, 1) := by decide +kernel
theorem dL_areTollsRight_20 : decode cL_areTollsRight 20 = .ok (.iload_n 3, 1) := by decide +kernel
theorem dL_areTollsRight_21 : decode cL_areTollsRight 21 = .ok (.iconst 3, 1) := by decide +kernel
theorem dL_areTollsRight_22 : decode cL_areTollsRight 22 = .ok (.invokevirtual 59, 3) := by decide +kernel
theorem dL_areTollsRight_25 : decode cL_areTollsRight 25 = .ok (.ifCond .ne 24, 3) := by decide +kernel
theorem dL_areTollsRight_28 : decode cL_areTollsRight 28 = .ok (.aload_n 0, 1) := by decide +kernel
theorem dL_areTollsRight_29 : decode cL_areTollsRight 29 = .ok (.iload_n 3, 1) := by decide +kernel
theorem dL_areTollsRight_30 : decode cL_areTollsRight 30 = .ok (.iconst 4, 1) := by decide +kernel
theorem dL_areTollsRight_31 : decode cL_areTollsRight 31 = .ok (.invokevirtual 59, 3) := by decide +kernel
theorem dL_areTollsRight_34 : decode cL_areTollsRight 34 = .ok (.aload_n 0, 1) := by decide +kernel
theorem dL_areTollsRight_35 : decode cL_areTollsRight 35 = .ok (.iload_n 3, 1) := by decide +kernel
theorem dL_areTollsRight_36 : decode cL_areTollsRight 36 = .ok (.bipush 6, 2) := by decide +kernel
theorem dL_areTollsRight_38 : decode cL_areTollsRight 38 = .ok (.invokevirtual 59, 3) := by decide +kernel
theorem dL_areTollsRight_41 : decode cL_areTollsRight 41 = .ok (.iadd, 1) := by decide +kernel
theorem dL_areTollsRight_42 : decode cL_areTollsRight 42 = .ok (.ifCond .ne 7, 3) := by decide +kernel
theorem dL_areTollsRight_45 : decode cL_areTollsRight 45 = .ok (.iconst 1, 1) := by decide +kernel
theorem dL_areTollsRight_46 : decode cL_areTollsRight 46 = .ok (.goto 4, 3) := by decide +kernel
theorem dL_areTollsRight_49 : decode cL_areTollsRight 49 = .ok (.iconst 0, 1) := by decide +kernel
theorem dL_areTollsRight_50 : decode cL_areTollsRight 50 = .ok (.istore 4, 2) := by decide +kernel
theorem dL_areTollsRight_52 : decode cL_areTollsRight 52 = .ok (.iload 4, 2) := by decide +kernel
theorem dL_areTollsRight_54 : decode cL_areTollsRight 54 = .ok (.ifCond .eq 13, 3) := by decide +kernel
theorem dL_areTollsRight_57 : decode cL_areTollsRight 57 = .ok (.iload_n 2, 1) := by decide +kernel
theorem dL_areTollsRight_58 : decode cL_areTollsRight 58 = .ok (.aload_n 0, 1) := by decide +kernel
theorem dL_areTollsRight_59 : decode cL_areTollsRight 59 = .ok (.iload_n 3, 1) := by decide +kernel
theorem dL_areTollsRight_60 : decode cL_areTollsRight 60 = .ok (.invokevirtual 112, 3) := by decide +kernel
theorem dL_areTollsRight_63 : decode cL_areTollsRight 63 = .ok (.invokestatic 115, 3) := by decide +kernel
theorem dL_areTollsRight_66 : decode cL_areTollsRight 66 = .ok (.istore_n 2, 1) := by decide +kernel
theorem dL_areTollsRight_67 : decode cL_areTollsRight 67 = .ok (.aload_n 0, 1) := by decide +kernel
theorem dL_areTollsRight_68 : decode cL_areTollsRight 68 = .ok (.iload_n 3, 1) := by decide +kernel
theorem dL_areTollsRight_69 : decode cL_areTollsRight 69 = .ok (.iconst 3, 1) := by decide +kernel
theorem dL_areTollsRight_70 : decode cL_areTollsRight 70 = .ok (.invokevirtual 59, 3) := by decide +kernel
theorem dL_areTollsRight_73 : decode cL_areTollsRight 73 = .ok (.iconst 1, 1) := by decide +kernel
theorem dL_areTollsRight_74 : decode cL_areTollsRight 74 = .ok (.if_icmp .ne 13, 3) := by decide +kernel
theorem dL_areTollsRight_77 : decode cL_areTollsRight 77 = .ok (.aload_n 0, 1) := by decide +kernel
theorem dL_areTollsRight_78 : decode cL_areTollsRight 78 = .ok (.iload_n 3, 1) := by decide +kernel
theorem dL_areTollsRight_79 : decode cL_areTollsRight 79 = .ok (.invokevirtual 112, 3) := by decide +kernel
theorem dL_areTollsRight_82 : decode cL_areTollsRight 82 = .ok (.ifCond .eq 5, 3) := by decide +kernel
theorem dL_areTollsRight_85 : decode cL_areTollsRight 85 = .ok (.iconst 0, 1) := by decide +kernel
theorem dL_areTollsRight_86 : decode cL_areTollsRight 86 = .ok (.ireturn, 1) := by decide +kernel
theorem dL_areTollsRight_87 : decode cL_areTollsRight 87 = .ok (.iinc 3 1, 3) := by decide +kernel
theorem dL_areTollsRight_90 : decode cL_areTollsRight 90 = .ok (.goto (-80), 3) := by decide +kernel
theorem dL_areTollsRight_93 : decode cL_areTollsRight 93 = .ok (.iload_n 1, 1) := by decide +kernel
theorem dL_areTollsRight_94 : decode cL_areTollsRight 94 = .ok (.ifCond .ge 19, 3) := by decide +kernel
theorem dL_areTollsRight_97 : decode cL_areTollsRight 97 = .ok (.aload_n 0, 1) := by decide +kernel
theorem dL_areTollsRight_98 : decode cL_areTollsRight 98 = .ok (.iconst 1, 1) := by decide +kernel
theorem dL_areTollsRight_99 : decode cL_areTollsRight 99 = .ok (.invokevirtual 33, 3) := by decide +kernel
theorem dL_areTollsRight_102 : decode cL_areTollsRight 102 = .ok (.aload_n 0, 1) := by decide +kernel
theorem dL_areTollsRight_103 : decode cL_areTollsRight 103 = .ok (.iconst 2, 1) := by decide +kernel
theorem dL_areTollsRight_104 : decode cL_areTollsRight 104 = .ok (.invokevirtual 33, 3) := by decide +kernel
theorem dL_areTollsRight_107 : decode cL_areTollsRight 107 = .ok (.if_icmp .eq 27, 3) := by decide +kernel
theorem dL_areTollsRight_110 : decode cL_areTollsRight 110 = .ok (.goto 22, 3) := by decide +kernel
theorem dL_areTollsRight_113 : decode cL_areTollsRight 113 = .ok (.aload_n 0, 1) := by decide +kernel
theorem dL_areTollsRight_114 : decode cL_areTollsRight 114 = .ok (.iload_n 1, 1) := by decide +kernel
theorem dL_areTollsRight_115 : decode cL_areTollsRight 115 = .ok (.invokevirtual 112, 3) := by decide +kernel
theorem dL_areTollsRight_118 : decode cL_areTollsRight 118 = .ok (.iload_n 2, 1) := by decide +kernel
theorem dL_areTollsRight_119 : decode cL_areTollsRight 119 = .ok (.if_icmp .ne 13, 3) := by decide +kernel
theorem dL_areTollsRight_122 : decode cL_areTollsRight 122 = .ok (.aload_n 0, 1) := by decide +kernel
theorem dL_areTollsRight_123 : decode cL_areTollsRight 123 = .ok (.iload_n 1, 1) := by decide +kernel
theorem dL_areTollsRight_124 : decode cL_areTollsRight 124 = .ok (.iconst 3, 1) := by decide +kernel
theorem dL_areTollsRight_125 : decode cL_areTollsRight 125 = .ok (.invokevirtual 59, 3) := by decide +kernel
theorem dL_areTollsRight_128 : decode cL_areTollsRight 128 = .ok (.iconst 1, 1) := by decide +kernel
theorem dL_areTollsRight_129 : decode cL_areTollsRight 129 = .ok (.if_icmp .ne 5, 3) := by decide +kernel
theorem dL_areTollsRight_132 : decode cL_areTollsRight 132 = .ok (.iconst 0, 1) := by decide +kernel
theorem dL_areTollsRight_133 : decode cL_areTollsRight 133 = .ok (.ireturn, 1) := by decide +kernel
theorem dL_areTollsRight_134 : decode cL_areTollsRight 134 = .ok (.aload_n 0, 1) := by decide +kernel
theorem dL_areTollsRight_135 : decode cL_areTollsRight 135 = .ok (.bipush 8, 2) := by decide +kernel
theorem dL_areTollsRight_137 : decode cL_areTollsRight 137 = .ok (.invokevirtual 33, 3) := by decide +kernel
theorem dL_areTollsRight_140 : decode cL_areTollsRight 140 = .ok (.iconst 2, 1) := by decide +kernel
theorem dL_areTollsRight_141 : decode cL_areTollsRight 141 = .ok (.irem, 1) := by decide +kernel
theorem dL_areTollsRight_142 : decode cL_areTollsRight 142 = .ok (.ifCond .ne 66, 3) := by decide +kernel
theorem dL_areTollsRight_145 : decode cL_areTollsRight 145 = .ok (.aload_n 0, 1) := by decide +kernel
theorem dL_areTollsRight_146 : decode cL_areTollsRight 146 = .ok (.bipush 8, 2) := by decide +kernel
theorem dL_areTollsRight_148 : decode cL_areTollsRight 148 = .ok (.invokevirtual 33, 3) := by decide +kernel
theorem dL_areTollsRight_151 : decode cL_areTollsRight 151 = .ok (.ifCond .lt 57, 3) := by decide +kernel
theorem dL_areTollsRight_154 : decode cL_areTollsRight 154 = .ok (.aload_n 0, 1) := by decide +kernel
theorem dL_areTollsRight_155 : decode cL_areTollsRight 155 = .ok (.invokevirtual 120, 3) := by decide +kernel
theorem dL_areTollsRight_158 : decode cL_areTollsRight 158 = .ok (.ifCond .lt 50, 3) := by decide +kernel
theorem dL_areTollsRight_161 : decode cL_areTollsRight 161 = .ok (.aload_n 0, 1) := by decide +kernel
theorem dL_areTollsRight_162 : decode cL_areTollsRight 162 = .ok (.iconst 1, 1) := by decide +kernel
theorem dL_areTollsRight_163 : decode cL_areTollsRight 163 = .ok (.invokevirtual 33, 3) := by decide +kernel
theorem dL_areTollsRight_166 : decode cL_areTollsRight 166 = .ok (.aload_n 0, 1) := by decide +kernel
theorem dL_areTollsRight_167 : decode cL_areTollsRight 167 = .ok (.iconst 2, 1) := by decide +kernel
theorem dL_areTollsRight_168 : decode cL_areTollsRight 168 = .ok (.invokevirtual 33, 3) := by decide +kernel
theorem dL_areTollsRight_171 : decode cL_areTollsRight 171 = .ok (.if_icmp .lt 16, 3) := by decide +kernel
theorem dL_areTollsRight_174 : decode cL_areTollsRight 174 = .ok (.aload_n 0, 1) := by decide +kernel
theorem dL_areTollsRight_175 : decode cL_areTollsRight 175 = .ok (.invokevirtual 120, 3) := by decide +kernel
theorem dL_areTollsRight_178 : decode cL_areTollsRight 178 = .ok (.aload_n 0, 1) := by decide +kernel
theorem dL_areTollsRight_179 : decode cL_areTollsRight 179 = .ok (.bipush 8, 2) := by decide +kernel
theorem dL_areTollsRight_181 : decode cL_areTollsRight 181 = .ok (.invokevirtual 33, 3) := by decide +kernel
theorem dL_areTollsRight_184 : decode cL_areTollsRight 184 = .ok (.if_icmp .ne 24, 3) := by decide +kernel
theorem dL_areTollsRight_187 : decode cL_areTollsRight 187 = .ok (.aload_n 0, 1) := by decide +kernel
theorem dL_areTollsRight_188 : decode cL_areTollsRight 188 = .ok (.iconst 1, 1) := by decide +kernel
theorem dL_areTollsRight_189 : decode cL_areTollsRight 189 = .ok (.invokevirtual 33, 3) := by decide +kernel
theorem dL_areTollsRight_192 : decode cL_areTollsRight 192 = .ok (.ifCond .gt 12, 3) := by decide +kernel
theorem dL_areTollsRight_195 : decode cL_areTollsRight 195 = .ok (.aload_n 0, 1) := by decide +kernel
theorem dL_areTollsRight_196 : decode cL_areTollsRight 196 = .ok (.bipush 8, 2) := by decide +kernel
theorem dL_areTollsRight_198 : decode cL_areTollsRight 198 = .ok (.invokevirtual 33, 3) := by decide +kernel
theorem dL_areTollsRight_201 : decode cL_areTollsRight 201 = .ok (.ifCond .ne 7, 3) := by decide +kernel
theorem dL_areTollsRight_204 : decode cL_areTollsRight 204 = .ok (.iconst 1, 1) := by decide +kernel
theorem dL_areTollsRight_205 : decode cL_areTollsRight 205 = .ok (.goto 4, 3) := by decide +kernel
theorem dL_areTollsRight_208 : decode cL_areTollsRight 208 = .ok (.iconst 0, 1) := by decide +kernel
theorem dL_areTollsRight_209 : decode cL_areTollsRight 209 = .ok (.ireturn, 1) := by decide +kernel
