theorem dX6_init_69 : decode cX6_init 69 = .ok (.putfield 34, 3) := by decide +kernel
theorem dX6_init_72 : decode cX6_init 72 = .ok (.return_, 1) := by decide +kernel
theorem dX6_gives_0 : decode cX6_gives 0 = .ok (.iload_n 1, 1) := by decide +kernel
theorem dX6_gives_1 : decode cX6_gives 1 = .ok (.bipush 40, 2) := by decide +kernel
theorem dX6_gives_3 : decode cX6_gives 3 = .ok (.if_icmp .lt 13, 3) := by decide +kernel
theorem dX6_gives_6 : decode cX6_gives 6 = .ok (.aload_n 0, 1) := by decide +kernel
theorem dX6_gives_7 : decode cX6_gives 7 = .ok (.getfield 21, 3) := by decide +kernel
theorem dX6_gives_10 : decode cX6_gives 10 = .ok (.iload_n 1, 1) := by decide +kernel
theorem dX6_gives_11 : decode cX6_gives 11 = .ok (.bipush 40, 2) := by decide +kernel
theorem dX6_gives_13 : decode cX6_gives 13 = .ok (.isub, 1) := by decide +kernel
theorem dX6_gives_14 : decode cX6_gives 14 = .ok (.iaload, 1) := by decide +kernel
theorem dX6_gives_15 : decode cX6_gives 15 = .ok (.ireturn, 1) := by decide +kernel
theorem dX6_gives_16 : decode cX6_gives 16 = .ok (.iconst 5, 1) := by decide +kernel
theorem dX6_gives_17 : decode cX6_gives 17 = .ok (.newarray .int, 2) := by decide +kernel
theorem dX6_gives_19 : decode cX6_gives 19 = .ok (.dup, 1) := by decide +kernel
theorem dX6_gives_20 : decode cX6_gives 20 = .ok (.iconst 0, 1) := by decide +kernel
theorem dX6_gives_21 : decode cX6_gives 21 = .ok (.iconst 0, 1) := by decide +kernel
theorem dX6_gives_22 : decode cX6_gives 22 = .ok (.iastore, 1) := by decide +kernel
theorem dX6_gives_23 : decode cX6_gives 23 = .ok (.dup, 1) := by decide +kernel
theorem dX6_gives_24 : decode cX6_gives 24 = .ok (.iconst 1, 1) := by decide +kernel
theorem dX6_gives_25 : decode cX6_gives 25 = .ok (.iconst 1, 1) := by decide +kernel
theorem dX6_gives_26 : decode cX6_gives 26 = .ok (.iastore, 1) := by decide +kernel
theorem dX6_gives_27 : decode cX6_gives 27 = .ok (.dup, 1) := by decide +kernel
theorem dX6_gives_28 : decode cX6_gives 28 = .ok (.iconst 2, 1) := by decide +kernel
theorem dX6_gives_29 : decode cX6_gives 29 = .ok (.iconst 2, 1) := by decide +kernel
theorem dX6_gives_30 : decode cX6_gives 30 = .ok (.iastore, 1) := by decide +kernel
theorem dX6_gives_31 : decode cX6_gives 31 = .ok (.dup, 1) := by decide +kernel
theorem dX6_gives_32 : decode cX6_gives 32 = .ok (.iconst 3, 1) := by decide +kernel
theorem dX6_gives_33 : decode cX6_gives 33 = .ok (.iconst 2, 1) := by decide +kernel
theorem dX6_gives_34 : decode cX6_gives 34 = .ok (.iastore, 1) := by decide +kernel
theorem dX6_gives_35 : decode cX6_gives 35 = .ok (.dup, 1) := by decide +kernel
theorem dX6_gives_36 : decode cX6_gives 36 = .ok (.iconst 4, 1) := by decide +kernel
theorem dX6_gives_37 : decode cX6_gives 37 = .ok (.iconst 0, 1) := by decide +kernel
theorem dX6_gives_38 : decode cX6_gives 38 = .ok (.iastore, 1) := by decide +kernel
theorem dX6_gives_39 : decode cX6_gives 39 = .ok (.astore_n 2, 1) := by decide +kernel
theorem dX6_gives_40 : decode cX6_gives 40 = .ok (.iload_n 1, 1) := by decide +kernel
theorem dX6_gives_41 : decode cX6_gives 41 = .ok (.bipush 10, 2) := by decide +kernel
theorem dX6_gives_43 : decode cX6_gives 43 = .ok (.if_icmp .ge 7, 3) := by decide +kernel
theorem dX6_gives_46 : decode cX6_gives 46 = .ok (.iconst 0, 1) := by decide +kernel
theorem dX6_gives_47 : decode cX6_gives 47 = .ok (.goto 9, 3) := by decide +kernel
theorem dX6_gives_50 : decode cX6_gives 50 = .ok (.aload_n 2, 1) := by decide +kernel
theorem dX6_gives_51 : decode cX6_gives 51 = .ok (.iload_n 1, 1) := by decide +kernel
theorem dX6_gives_52 : decode cX6_gives 52 = .ok (.bipush 20, 2) := by decide +kernel
theorem dX6_gives_54 : decode cX6_gives 54 = .ok (.isub, 1) := by decide +kernel
theorem dX6_gives_55 : decode cX6_gives 55 = .ok (.iaload, 1) := by decide +kernel
theorem dX6_gives_56 : decode cX6_gives 56 = .ok (.ireturn, 1) := by decide +kernel
set_option maxRecDepth 20000 in
theorem ggX6_isTold_L_cell : GoodIn wsX6_isTold wsL_cell := goodIn_r _ [8, 9] (by decide +kernel) (by decide +kernel)
set_option maxRecDepth 20000 in
theorem gX6_isTold_L_cell_n110 : GoodIn wsX6_isTold (wsL_cell) := ggX6_isTold_L_cell
set_option maxRecDepth 20000 in
theorem ggX6_isTold_L_below : GoodIn wsX6_isTold wsL_below := goodIn_r _ [11, 12] (by decide +kernel) (by decide +kernel)
set_option maxRecDepth 20000 in
theorem gX6_isTold_L_below_n116 : GoodIn wsX6_isTold (wsL_below) := ggX6_isTold_L_below
set_option maxRecDepth 20000 in
theorem ggX6_isTold_X5_function : GoodIn wsX6_isTold wsX5_function := goodIn_ca (goodIn_r _ [17, 18, 19, 20, 21, 132, 133, 134, 135, 136, 137, 138, 139, 140] (by decide +kernel) (by decide +kernel)) (goodIn_sub (fun _ h => List.mem_cons_of_mem _ (List.mem_append_left _ (List.mem_append_left _ (List.mem_append_right _ h)))) (by decide +kernel))
set_option maxRecDepth 20000 in
theorem gX6_isTold_X5_function : GoodIn wsX6_isTold (wsV RX6 119 RX5 yX5_function wsX5_function) := goodIn_app (goodIn_of _ (by decide +kernel)) ggX6_isTold_X5_function
set_option maxRecDepth 20000 in
theorem ggX6_isTold_X6_step : GoodIn wsX6_isTold wsX6_step := goodIn_r _ [25, 10, 7, 11, 12] (by decide +kernel) (by decide +kernel)
set_option maxRecDepth 20000 in
theorem gX6_isTold_X6_step : GoodIn wsX6_isTold (va_wsS RX6 125 yX6_step wsX6_step) := goodIn_app (goodIn_of _ (by decide +kernel)) ggX6_isTold_X6_step
set_option maxRecDepth 20000 in
theorem ggX6_isTold_X5_step : GoodIn wsX6_isTold wsX5_step := goodIn_ca (goodIn_ca (goodIn_ca (goodIn_r _ [29, 30, 31, 18, 19, 20, 32, 33, 34, 35, 36, 37, 16, 38, 39, 40, 21, 41, 42, 43, 44, 45, 46, 47, 48, 49, 50, 51, 52, 53, 54, 55, 56, 57, 58, 59, 60, 61, 62, 63, 64, 65, 66, 67, 68, 69, 70, 71, 72, 73, 74, 75, 76, 77, 78, 79, 80, 81, 82, 83, 84, 85, 86, 87, 88, 89, 90, 91, 92, 93, 94, 95, 96, 97, 98, 99, 100, 101, 102, 103, 104, 105, 106, 107, 108, 109, 110, 111, 112, 113, 132, 133, 134, 135, 136, 137, 138, 139, 140, 141, 142, 143, 144, 145, 146, 147] (by decide +kernel) (by decide +kernel)) (goodIn_sub (fun _ h => List.mem_cons_of_mem _ (List.mem_append_left _ (List.mem_append_right _ h))) (by decide +kernel))) (goodIn_sub (fun _ h => List.mem_cons_of_mem _ (List.mem_append_left _ (List.mem_append_left _ (List.mem_append_right _ h)))) (by decide +kernel))) (goodIn_sub (fun _ h => List.mem_cons_of_mem _ (List.mem_append_right _ h)) (by decide +kernel))
set_option maxRecDepth 20000 in
theorem gX6_isTold_X5_step : GoodIn wsX6_isTold (wsV RX6 129 RX5 yX5_step wsX5_step) := goodIn_app (goodIn_of _ (by decide +kernel)) ggX6_isTold_X5_step
set_option maxRecDepth 20000 in
theorem ggX6_isTold_X6_gives : GoodIn wsX6_isTold wsX6_gives := goodIn_r _ [117, 2, 118, 119, 120, 121, 122, 123, 124, 125, 126, 127, 128, 129, 130, 131] (by decide +kernel) (by decide +kernel)
set_option maxRecDepth 20000 in
theorem gX6_isTold_X6_gives : GoodIn wsX6_isTold (wsV RX6 37 RX6 yX6_gives wsX6_gives) := goodIn_app (goodIn_of _ (by decide +kernel)) ggX6_isTold_X6_gives
theorem dX6_isTold_0 : decode cX6_isTold 0 = .ok (.iconst 2, 1) := by decide +kernel
theorem dX6_isTold_1 : decode cX6_isTold 1 = .ok (.aload_n 2, 1) := by decide +kernel
theorem dX6_isTold_2 : decode cX6_isTold 2 = .ok (.iload_n 3, 1) := by decide +kernel
theorem dX6_isTold_3 : decode cX6_isTold 3 = .ok (.invokestatic 110, 3) := by decide +kernel
theorem dX6_isTold_6 : decode cX6_isTold 6 = .ok (.bipush 6, 2) := by decide +kernel
theorem dX6_isTold_8 : decode cX6_isTold 8 = .ok (.invokestatic 116, 3) := by decide +kernel
theorem dX6_isTold_11 : decode cX6_isTold 11 = .ok (.iadd, 1) := by decide +kernel
theorem dX6_isTold_12 : decode cX6_isTold 12 = .ok (.istore 4, 2) := by decide +kernel
theorem dX6_isTold_14 : decode cX6_isTold 14 = .ok (.iconst 0, 1) := by decide +kernel
theorem dX6_isTold_15 : decode cX6_isTold 15 = .ok (.istore 5, 2) := by decide +kernel
theorem dX6_isTold_17 : decode cX6_isTold 17 = .ok (.iload 5, 2) := by decide +kernel
theorem dX6_isTold_19 : decode cX6_isTold 19 = .ok (.iload 4, 2) := by decide +kernel
theorem dX6_isTold_21 : decode cX6_isTold 21 = .ok (.if_icmp .ge 46, 3) := by decide +kernel
theorem dX6_isTold_24 : decode cX6_isTold 24 = .ok (.aload_n 1, 1) := by decide +kernel
theorem dX6_isTold_25 : decode cX6_isTold 25 = .ok (.invokevirtual 119, 3) := by decide +kernel
theorem dX6_isTold_28 : decode cX6_isTold 28 = .ok (.iload 5, 2) := by decide +kernel
theorem dX6_isTold_30 : decode cX6_isTold 30 = .ok (.if_icmp .eq 5, 3) := by decide +kernel
theorem dX6_isTold_33 : decode cX6_isTold 33 = .ok (.iconst 0, 1) := by decide +kernel
theorem dX6_isTold_34 : decode cX6_isTold 34 = .ok (.ireturn, 1) := by decide +kernel
theorem dX6_isTold_35 : decode cX6_isTold 35 = .ok (.aload_n 0, 1) := by decide +kernel
theorem dX6_isTold_36 : decode cX6_isTold 36 = .ok (.getfield 18, 3) := by decide +kernel
theorem dX6_isTold_39 : decode cX6_isTold 39 = .ok (.iload 5, 2) := by decide +kernel
theorem dX6_isTold_41 : decode cX6_isTold 41 = .ok (.iconst 3, 1) := by decide +kernel
theorem dX6_isTold_42 : decode cX6_isTold 42 = .ok (.iastore, 1) := by decide +kernel
theorem dX6_isTold_43 : decode cX6_isTold 43 = .ok (.aload_n 0, 1) := by decide +kernel
theorem dX6_isTold_44 : decode cX6_isTold 44 = .ok (.getfield 21, 3) := by decide +kernel
theorem dX6_isTold_47 : decode cX6_isTold 47 = .ok (.iload 5, 2) := by decide +kernel
theorem dX6_isTold_49 : decode cX6_isTold 49 = .ok (.iconst 3, 1) := by decide +kernel
theorem dX6_isTold_50 : decode cX6_isTold 50 = .ok (.iastore, 1) := by decide +kernel
theorem dX6_isTold_51 : decode cX6_isTold 51 = .ok (.aload_n 0, 1) := by decide +kernel
theorem dX6_isTold_52 : decode cX6_isTold 52 = .ok (.dup, 1) := by decide +kernel
theorem dX6_isTold_53 : decode cX6_isTold 53 = .ok (.getfield 57, 3) := by decide +kernel
theorem dX6_isTold_56 : decode cX6_isTold 56 = .ok (.iconst 1, 1) := by decide +kernel
theorem dX6_isTold_57 : decode cX6_isTold 57 = .ok (.iadd, 1) := by decide +kernel
theorem dX6_isTold_58 : decode cX6_isTold 58 = .ok (.putfield 57, 3) := by decide +kernel
theorem dX6_isTold_61 : decode cX6_isTold 61 = .ok (.iinc 5 1, 3) := by decide +kernel
theorem dX6_isTold_64 : decode cX6_isTold 64 = .ok (.goto (-47), 3) := by decide +kernel
theorem dX6_isTold_67 : decode cX6_isTold 67 = .ok (.iconst 0, 1) := by decide +kernel
theorem dX6_isTold_68 : decode cX6_isTold 68 = .ok (.istore 5, 2) := by decide +kernel
theorem dX6_isTold_70 : decode cX6_isTold 70 = .ok (.iload 5, 2) := by decide +kernel
theorem dX6_isTold_72 : decode cX6_isTold 72 = .ok (.iload 4, 2) := by decide +kernel
theorem dX6_isTold_74 : decode cX6_isTold 74 = .ok (.if_icmp .ge 134, 3) := by decide +kernel
theorem dX6_isTold_77 : decode cX6_isTold 77 = .ok (.aload_n 2, 1) := by decide +kernel
theorem dX6_isTold_78 : decode cX6_isTold 78 = .ok (.iload_n 3, 1) := by decide +kernel
theorem dX6_isTold_79 : decode cX6_isTold 79 = .ok (.iconst 1, 1) := by decide +kernel
theorem dX6_isTold_80 : decode cX6_isTold 80 = .ok (.iadd, 1) := by decide +kernel
theorem dX6_isTold_81 : decode cX6_isTold 81 = .ok (.iload 5, 2) := by decide +kernel
theorem dX6_isTold_83 : decode cX6_isTold 83 = .ok (.iadd, 1) := by decide +kernel
theorem dX6_isTold_84 : decode cX6_isTold 84 = .ok (.invokestatic 110, 3) := by decide +kernel
theorem dX6_isTold_87 : decode cX6_isTold 87 = .ok (.istore 6, 2) := by decide +kernel
theorem dX6_isTold_89 : decode cX6_isTold 89 = .ok (.iload 6, 2) := by decide +kernel
theorem dX6_isTold_91 : decode cX6_isTold 91 = .ok (.iconst 4, 1) := by decide +kernel
theorem dX6_isTold_92 : decode cX6_isTold 92 = .ok (.invokestatic 116, 3) := by decide +kernel
theorem dX6_isTold_95 : decode cX6_isTold 95 = .ok (.istore 7, 2) := by decide +kernel
theorem dX6_isTold_97 : decode cX6_isTold 97 = .ok (.iconst 0, 1) := by decide +kernel
theorem dX6_isTold_98 : decode cX6_isTold 98 = .ok (.istore 8, 2) := by decide +kernel
theorem dX6_isTold_100 : decode cX6_isTold 100 = .ok (.iload 8, 2) := by decide +kernel
theorem dX6_isTold_102 : decode cX6_isTold 102 = .ok (.iload 6, 2) := by decide +kernel
theorem dX6_isTold_104 : decode cX6_isTold 104 = .ok (.iconst 2, 1) := by decide +kernel
theorem dX6_isTold_105 : decode cX6_isTold 105 = .ok (.ishr, 1) := by decide +kernel
theorem dX6_isTold_106 : decode cX6_isTold 106 = .ok (.iconst 5, 1) := by decide +kernel
theorem dX6_isTold_107 : decode cX6_isTold 107 = .ok (.invokestatic 116, 3) := by decide +kernel
theorem dX6_isTold_110 : decode cX6_isTold 110 = .ok (.if_icmp .ge 92, 3) := by decide +kernel
theorem dX6_isTold_113 : decode cX6_isTold 113 = .ok (.iload 6, 2) := by decide +kernel
theorem dX6_isTold_115 : decode cX6_isTold 115 = .ok (.iload 8, 2) := by decide +kernel
theorem dX6_isTold_117 : decode cX6_isTold 117 = .ok (.ishr, 1) := by decide +kernel
theorem dX6_isTold_118 : decode cX6_isTold 118 = .ok (.iload 7, 2) := by decide +kernel
theorem dX6_isTold_120 : decode cX6_isTold 120 = .ok (.iload 4, 2) := by decide +kernel
theorem dX6_isTold_122 : decode cX6_isTold 122 = .ok (.invokestatic 125, 3) := by decide +kernel
theorem dX6_isTold_125 : decode cX6_isTold 125 = .ok (.istore 9, 2) := by decide +kernel
theorem dX6_isTold_127 : decode cX6_isTold 127 = .ok (.aload_n 0, 1) := by decide +kernel
theorem dX6_isTold_128 : decode cX6_isTold 128 = .ok (.getfield 9, 3) := by decide +kernel
theorem dX6_isTold_131 : decode cX6_isTold 131 = .ok (.iload 5, 2) := by decide +kernel
theorem dX6_isTold_133 : decode cX6_isTold 133 = .ok (.aaload, 1) := by decide +kernel
theorem dX6_isTold_134 : decode cX6_isTold 134 = .ok (.iload 8, 2) := by decide +kernel
theorem dX6_isTold_136 : decode cX6_isTold 136 = .ok (.iload 9, 2) := by decide +kernel
theorem dX6_isTold_138 : decode cX6_isTold 138 = .ok (.iastore, 1) := by decide +kernel
theorem dX6_isTold_139 : decode cX6_isTold 139 = .ok (.aload_n 0, 1) := by decide +kernel
theorem dX6_isTold_140 : decode cX6_isTold 140 = .ok (.getfield 14, 3) := by decide +kernel
theorem dX6_isTold_143 : decode cX6_isTold 143 = .ok (.iload 5, 2) := by decide +kernel
theorem dX6_isTold_145 : decode cX6_isTold 145 = .ok (.dup2, 1) := by decide +kernel
theorem dX6_isTold_146 : decode cX6_isTold 146 = .ok (.iaload, 1) := by decide +kernel
theorem dX6_isTold_147 : decode cX6_isTold 147 = .ok (.iconst 1, 1) := by decide +kernel
theorem dX6_isTold_148 : decode cX6_isTold 148 = .ok (.iadd, 1) := by decide +kernel
theorem dX6_isTold_149 : decode cX6_isTold 149 = .ok (.iastore, 1) := by decide +kernel
theorem dX6_isTold_150 : decode cX6_isTold 150 = .ok (.aload_n 1, 1) := by decide +kernel
theorem dX6_isTold_151 : decode cX6_isTold 151 = .ok (.iload 5, 2) := by decide +kernel
theorem dX6_isTold_153 : decode cX6_isTold 153 = .ok (.iload 9, 2) := by decide +kernel
theorem dX6_isTold_155 : decode cX6_isTold 155 = .ok (.invokevirtual 129, 3) := by decide +kernel
theorem dX6_isTold_158 : decode cX6_isTold 158 = .ok (.iload 8, 2) := by decide +kernel
theorem dX6_isTold_160 : decode cX6_isTold 160 = .ok (.iconst 1, 1) := by decide +kernel
theorem dX6_isTold_161 : decode cX6_isTold 161 = .ok (.iadd, 1) := by decide +kernel
theorem dX6_isTold_162 : decode cX6_isTold 162 = .ok (.if_icmp .eq 5, 3) := by decide +kernel
theorem dX6_isTold_165 : decode cX6_isTold 165 = .ok (.iconst 0, 1) := by decide +kernel
theorem dX6_isTold_166 : decode cX6_isTold 166 = .ok (.ireturn, 1) := by decide +kernel
theorem dX6_isTold_167 : decode cX6_isTold 167 = .ok (.iload 9, 2) := by decide +kernel
theorem dX6_isTold_169 : decode cX6_isTold 169 = .ok (.bipush 40, 2) := by decide +kernel
theorem dX6_isTold_171 : decode cX6_isTold 171 = .ok (.if_icmp .lt 17, 3) := by decide +kernel
theorem dX6_isTold_174 : decode cX6_isTold 174 = .ok (.iload 6, 2) := by decide +kernel
theorem dX6_isTold_176 : decode cX6_isTold 176 = .ok (.iconst 3, 1) := by decide +kernel
theorem dX6_isTold_177 : decode cX6_isTold 177 = .ok (.iload 8, 2) := by decide +kernel
theorem dX6_isTold_179 : decode cX6_isTold 179 = .ok (.iadd, 1) := by decide +kernel
theorem dX6_isTold_180 : decode cX6_isTold 180 = .ok (.ishr, 1) := by decide +kernel
theorem dX6_isTold_181 : decode cX6_isTold 181 = .ok (.iconst 4, 1) := by decide +kernel
theorem dX6_isTold_182 : decode cX6_isTold 182 = .ok (.invokestatic 116, 3) := by decide +kernel
theorem dX6_isTold_185 : decode cX6_isTold 185 = .ok (.goto 9, 3) := by decide +kernel
theorem dX6_isTold_188 : decode cX6_isTold 188 = .ok (.aload_n 0, 1) := by decide +kernel
theorem dX6_isTold_189 : decode cX6_isTold 189 = .ok (.iload 9, 2) := by decide +kernel
theorem dX6_isTold_191 : decode cX6_isTold 191 = .ok (.invokevirtual 37, 3) := by decide +kernel
theorem dX6_isTold_194 : decode cX6_isTold 194 = .ok (.istore 7, 2) := by decide +kernel
theorem dX6_isTold_196 : decode cX6_isTold 196 = .ok (.iinc 8 1, 3) := by decide +kernel
theorem dX6_isTold_199 : decode cX6_isTold 199 = .ok (.goto (-99), 3) := by decide +kernel
theorem dX6_isTold_202 : decode cX6_isTold 202 = .ok (.iinc 5 1, 3) := by decide +kernel
theorem dX6_isTold_205 : decode cX6_isTold 205 = .ok (.goto (-135), 3) := by decide +kernel
theorem dX6_isTold_208 : decode cX6_isTold 208 = .ok (.iconst 1, 1) := by decide +kernel
theorem dX6_isTold_209 : decode cX6_isTold 209 = .ok (.ireturn, 1) := by decide +kernel
set_option maxRecDepth 20000 in
theorem ggX6_step_L_below : GoodIn wsX6_step wsL_below := goodIn_r _ [3, 4] (by decide +kernel) (by decide +kernel)
set_option maxRecDepth 20000 in
theorem gX6_step_L_below_n116 : GoodIn wsX6_step (wsL_below) := ggX6_step_L_below
theorem dX6_step_0 : decode cX6_step 0 = .ok (.iload_n 0, 1) := by decide +kernel
theorem dX6_step_1 : decode cX6_step 1 = .ok (.iconst 4, 1) := by decide +kernel
theorem dX6_step_2 : decode cX6_step 2 = .ok (.ishr, 1) := by decide +kernel
theorem dX6_step_3 : decode cX6_step 3 = .ok (.bipush 9, 2) := by decide +kernel
theorem dX6_step_5 : decode cX6_step 5 = .ok (.invokestatic 116, 3) := by decide +kernel
theorem dX6_step_8 : decode cX6_step 8 = .ok (.istore_n 3, 1) := by decide +kernel
theorem dX6_step_9 : decode cX6_step 9 = .ok (.iload_n 3, 1) := by decide +kernel
theorem dX6_step_10 : decode cX6_step 10 = .ok (.iconst 2, 1) := by decide +kernel
theorem dX6_step_11 : decode cX6_step 11 = .ok (.if_icmp .ge 15, 3) := by decide +kernel
theorem dX6_step_14 : decode cX6_step 14 = .ok (.bipush 40, 2) := by decide +kernel
theorem dX6_step_16 : decode cX6_step 16 = .ok (.iload_n 0, 1) := by decide +kernel
theorem dX6_step_17 : decode cX6_step 17 = .ok (.bipush 6, 2) := by decide +kernel
theorem dX6_step_19 : decode cX6_step 19 = .ok (.ishr, 1) := by decide +kernel
theorem dX6_step_20 : decode cX6_step 20 = .ok (.iload_n 2, 1) := by decide +kernel
theorem dX6_step_21 : decode cX6_step 21 = .ok (.invokestatic 116, 3) := by decide +kernel
theorem dX6_step_24 : decode cX6_step 24 = .ok (.iadd, 1) := by decide +kernel
theorem dX6_step_25 : decode cX6_step 25 = .ok (.ireturn, 1) := by decide +kernel
theorem dX6_step_26 : decode cX6_step 26 = .ok (.iload_n 3, 1) := by decide +kernel
theorem dX6_step_27 : decode cX6_step 27 = .ok (.iconst 2, 1) := by decide +kernel
theorem dX6_step_28 : decode cX6_step 28 = .ok (.if_icmp .ne 14, 3) := by decide +kernel
theorem dX6_step_31 : decode cX6_step 31 = .ok (.bipush 20, 2) := by decide +kernel
theorem dX6_step_33 : decode cX6_step 33 = .ok (.iload_n 0, 1) := by decide +kernel
theorem dX6_step_34 : decode cX6_step 34 = .ok (.iconst 5, 1) := by decide +kernel
theorem dX6_step_35 : decode cX6_step 35 = .ok (.ishr, 1) := by decide +kernel
theorem dX6_step_36 : decode cX6_step 36 = .ok (.iconst 5, 1) := by decide +kernel
theorem dX6_step_37 : decode cX6_step 37 = .ok (.invokestatic 116, 3) := by decide +kernel
theorem dX6_step_40 : decode cX6_step 40 = .ok (.iadd, 1) := by decide +kernel
theorem dX6_step_41 : decode cX6_step 41 = .ok (.ireturn, 1) := by decide +kernel
theorem dX6_step_42 : decode cX6_step 42 = .ok (.iload_n 3, 1) := by decide +kernel
theorem dX6_step_43 : decode cX6_step 43 = .ok (.iconst 3, 1) := by decide +kernel
theorem dX6_step_44 : decode cX6_step 44 = .ok (.if_icmp .ne 6, 3) := by decide +kernel
theorem dX6_step_47 : decode cX6_step 47 = .ok (.bipush 21, 2) := by decide +kernel
theorem dX6_step_49 : decode cX6_step 49 = .ok (.ireturn, 1) := by decide +kernel
theorem dX6_step_50 : decode cX6_step 50 = .ok (.iload_n 1, 1) := by decide +kernel
theorem dX6_step_51 : decode cX6_step 51 = .ok (.iconst 1, 1) := by decide +kernel
theorem dX6_step_52 : decode cX6_step 52 = .ok (.if_icmp .ne 6, 3) := by decide +kernel
theorem dX6_step_55 : decode cX6_step 55 = .ok (.bipush 20, 2) := by decide +kernel
theorem dX6_step_57 : decode cX6_step 57 = .ok (.ireturn, 1) := by decide +kernel
theorem dX6_step_58 : decode cX6_step 58 = .ok (.iload_n 1, 1) := by decide +kernel
theorem dX6_step_59 : decode cX6_step 59 = .ok (.iconst 2, 1) := by decide +kernel
theorem dX6_step_60 : decode cX6_step 60 = .ok (.if_icmp .ne 6, 3) := by decide +kernel
theorem dX6_step_63 : decode cX6_step 63 = .ok (.bipush 23, 2) := by decide +kernel
theorem dX6_step_65 : decode cX6_step 65 = .ok (.ireturn, 1) := by decide +kernel
theorem dX6_step_66 : decode cX6_step 66 = .ok (.iload_n 3, 1) := by decide +kernel
theorem dX6_step_67 : decode cX6_step 67 = .ok (.iconst 4, 1) := by decide +kernel
theorem dX6_step_68 : decode cX6_step 68 = .ok (.if_icmp .ne 8, 3) := by decide +kernel
theorem dX6_step_71 : decode cX6_step 71 = .ok (.bipush 22, 2) := by decide +kernel
theorem dX6_step_73 : decode cX6_step 73 = .ok (.goto 21, 3) := by decide +kernel
theorem dX6_step_76 : decode cX6_step 76 = .ok (.iload_n 3, 1) := by decide +kernel
theorem dX6_step_77 : decode cX6_step 77 = .ok (.iconst 5, 1) := by decide +kernel
theorem dX6_step_78 : decode cX6_step 78 = .ok (.if_icmp .ne 8, 3) := by decide +kernel
theorem dX6_step_81 : decode cX6_step 81 = .ok (.bipush 24, 2) := by decide +kernel
theorem dX6_step_83 : decode cX6_step 83 = .ok (.goto 11, 3) := by decide +kernel
theorem dX6_step_86 : decode cX6_step 86 = .ok (.iload_n 0, 1) := by decide +kernel
theorem dX6_step_87 : decode cX6_step 87 = .ok (.iconst 5, 1) := by decide +kernel
theorem dX6_step_88 : decode cX6_step 88 = .ok (.ishr, 1) := by decide +kernel
theorem dX6_step_89 : decode cX6_step 89 = .ok (.bipush 10, 2) := by decide +kernel
theorem dX6_step_91 : decode cX6_step 91 = .ok (.invokestatic 116, 3) := by decide +kernel
theorem dX6_step_94 : decode cX6_step 94 = .ok (.ireturn, 1) := by decide +kernel
theorem dJ6_bitCount_0f7a4_0 : decode cJ6_bitCount_0f7a4 0 = .ok (.iload_n 0, 1) := by decide +kernel
theorem dJ6_bitCount_0f7a4_1 : decode cJ6_bitCount_0f7a4 1 = .ok (.iload_n 0, 1) := by decide +kernel
theorem dJ6_bitCount_0f7a4_2 : decode cJ6_bitCount_0f7a4 2 = .ok (.iconst 1, 1) := by decide +kernel
theorem dJ6_bitCount_0f7a4_3 : decode cJ6_bitCount_0f7a4 3 = .ok (.iushr, 1) := by decide +kernel
theorem dJ6_bitCount_0f7a4_4 : decode cJ6_bitCount_0f7a4 4 = .ok (.ldc_w 265, 3) := by decide +kernel
theorem dJ6_bitCount_0f7a4_7 : decode cJ6_bitCount_0f7a4 7 = .ok (.iand, 1) := by decide +kernel
theorem dJ6_bitCount_0f7a4_8 : decode cJ6_bitCount_0f7a4 8 = .ok (.isub, 1) := by decide +kernel
theorem dJ6_bitCount_0f7a4_9 : decode cJ6_bitCount_0f7a4 9 = .ok (.istore_n 0, 1) := by decide +kernel
theorem dJ6_bitCount_0f7a4_10 : decode cJ6_bitCount_0f7a4 10 = .ok (.iload_n 0, 1) := by decide +kernel
theorem dJ6_bitCount_0f7a4_11 : decode cJ6_bitCount_0f7a4 11 = .ok (.ldc_w 266, 3) := by decide +kernel
theorem dJ6_bitCount_0f7a4_14 : decode cJ6_bitCount_0f7a4 14 = .ok (.iand, 1) := by decide +kernel
theorem dJ6_bitCount_0f7a4_15 : decode cJ6_bitCount_0f7a4 15 = .ok (.iload_n 0, 1) := by decide +kernel
theorem dJ6_bitCount_0f7a4_16 : decode cJ6_bitCount_0f7a4 16 = .ok (.iconst 2, 1) := by decide +kernel
theorem dJ6_bitCount_0f7a4_17 : decode cJ6_bitCount_0f7a4 17 = .ok (.iushr, 1) := by decide +kernel
theorem dJ6_bitCount_0f7a4_18 : decode cJ6_bitCount_0f7a4 18 = .ok (.ldc_w 266, 3) := by decide +kernel
theorem dJ6_bitCount_0f7a4_21 : decode cJ6_bitCount_0f7a4 21 = .ok (.iand, 1) := by decide +kernel
theorem dJ6_bitCount_0f7a4_22 : decode cJ6_bitCount_0f7a4 22 = .ok (.iadd, 1) := by decide +kernel
theorem dJ6_bitCount_0f7a4_23 : decode cJ6_bitCount_0f7a4 23 = .ok (.istore_n 0, 1) := by decide +kernel
theorem dJ6_bitCount_0f7a4_24 : decode cJ6_bitCount_0f7a4 24 = .ok (.iload_n 0, 1) := by decide +kernel
theorem dJ6_bitCount_0f7a4_25 : decode cJ6_bitCount_0f7a4 25 = .ok (.iload_n 0, 1) := by decide +kernel
theorem dJ6_bitCount_0f7a4_26 : decode cJ6_bitCount_0f7a4 26 = .ok (.iconst 4, 1) := by decide +kernel
theorem dJ6_bitCount_0f7a4_27 : decode cJ6_bitCount_0f7a4 27 = .ok (.iushr, 1) := by decide +kernel
theorem dJ6_bitCount_0f7a4_28 : decode cJ6_bitCount_0f7a4 28 = .ok (.iadd, 1) := by decide +kernel
theorem dJ6_bitCount_0f7a4_29 : decode cJ6_bitCount_0f7a4 29 = .ok (.ldc_w 267, 3) := by decide +kernel
theorem dJ6_bitCount_0f7a4_32 : decode cJ6_bitCount_0f7a4 32 = .ok (.iand, 1) := by decide +kernel
theorem dJ6_bitCount_0f7a4_33 : decode cJ6_bitCount_0f7a4 33 = .ok (.istore_n 0, 1) := by decide +kernel
theorem dJ6_bitCount_0f7a4_34 : decode cJ6_bitCount_0f7a4 34 = .ok (.iload_n 0, 1) := by decide +kernel
theorem dJ6_bitCount_0f7a4_35 : decode cJ6_bitCount_0f7a4 35 = .ok (.iload_n 0, 1) := by decide +kernel
theorem dJ6_bitCount_0f7a4_36 : decode cJ6_bitCount_0f7a4 36 = .ok (.bipush 8, 2) := by decide +kernel
theorem dJ6_bitCount_0f7a4_38 : decode cJ6_bitCount_0f7a4 38 = .ok (.iushr, 1) := by decide +kernel
theorem dJ6_bitCount_0f7a4_39 : decode cJ6_bitCount_0f7a4 39 = .ok (.iadd, 1) := by decide +kernel
theorem dJ6_bitCount_0f7a4_40 : decode cJ6_bitCount_0f7a4 40 = .ok (.istore_n 0, 1) := by decide +kernel
theorem dJ6_bitCount_0f7a4_41 : decode cJ6_bitCount_0f7a4 41 = .ok (.iload_n 0, 1) := by decide +kernel
theorem dJ6_bitCount_0f7a4_42 : decode cJ6_bitCount_0f7a4 42 = .ok (.iload_n 0, 1) := by decide +kernel
theorem dJ6_bitCount_0f7a4_43 : decode cJ6_bitCount_0f7a4 43 = .ok (.bipush 16, 2) := by decide +kernel
theorem dJ6_bitCount_0f7a4_45 : decode cJ6_bitCount_0f7a4 45 = .ok (.iushr, 1) := by decide +kernel
theorem dJ6_bitCount_0f7a4_46 : decode cJ6_bitCount_0f7a4 46 = .ok (.iadd, 1) := by decide +kernel
theorem dJ6_bitCount_0f7a4_47 : decode cJ6_bitCount_0f7a4 47 = .ok (.istore_n 0, 1) := by decide +kernel
theorem dJ6_bitCount_0f7a4_48 : decode cJ6_bitCount_0f7a4 48 = .ok (.iload_n 0, 1) := by decide +kernel
theorem dJ6_bitCount_0f7a4_49 : decode cJ6_bitCount_0f7a4 49 = .ok (.bipush 63, 2) := by decide +kernel
theorem dJ6_bitCount_0f7a4_51 : decode cJ6_bitCount_0f7a4 51 = .ok (.iand, 1) := by decide +kernel
theorem dJ6_bitCount_0f7a4_52 : decode cJ6_bitCount_0f7a4 52 = .ok (.ireturn, 1) := by decide +kernel
theorem dJ9_abs_0f7a4_0 : decode cJ9_abs_0f7a4 0 = .ok (.iload_n 0, 1) := by decide +kernel
theorem dJ9_abs_0f7a4_1 : decode cJ9_abs_0f7a4 1 = .ok (.ifCond .ge 8, 3) := by decide +kernel
theorem dJ9_abs_0f7a4_4 : decode cJ9_abs_0f7a4 4 = .ok (.iload_n 0, 1) := by decide +kernel
theorem dJ9_abs_0f7a4_5 : decode cJ9_abs_0f7a4 5 = .ok (.ineg, 1) := by decide +kernel
theorem dJ9_abs_0f7a4_6 : decode cJ9_abs_0f7a4 6 = .ok (.goto 4, 3) := by decide +kernel
theorem dJ9_abs_0f7a4_9 : decode cJ9_abs_0f7a4 9 = .ok (.iload_n 0, 1) := by decide +kernel
theorem dJ9_abs_0f7a4_10 : decode cJ9_abs_0f7a4 10 = .ok (.ireturn, 1) := by decide +kernel
theorem dJ9_max_7cf53_0 : decode cJ9_max_7cf53 0 = .ok (.iload_n 0, 1) := by decide +kernel
theorem dJ9_max_7cf53_1 : decode cJ9_max_7cf53 1 = .ok (.iload_n 1, 1) := by decide +kernel
theorem dJ9_max_7cf53_2 : decode cJ9_max_7cf53 2 = .ok (.if_icmp .lt 7, 3) := by decide +kernel
theorem dJ9_max_7cf53_5 : decode cJ9_max_7cf53 5 = .ok (.iload_n 0, 1) := by decide +kernel
theorem dJ9_max_7cf53_6 : decode cJ9_max_7cf53 6 = .ok (.goto 4, 3) := by decide +kernel
theorem dJ9_max_7cf53_9 : decode cJ9_max_7cf53 9 = .ok (.iload_n 1, 1) := by decide +kernel
theorem dJ9_max_7cf53_10 : decode cJ9_max_7cf53 10 = .ok (.ireturn, 1) := by decide +kernel
theorem dJ9_min_7cf53_0 : decode cJ9_min_7cf53 0 = .ok (.iload_n 0, 1) := by decide +kernel
theorem dJ9_min_7cf53_1 : decode cJ9_min_7cf53 1 = .ok (.iload_n 1, 1) := by decide +kernel
theorem dJ9_min_7cf53_2 : decode cJ9_min_7cf53 2 = .ok (.if_icmp .gt 7, 3) := by decide +kernel
theorem dJ9_min_7cf53_5 : decode cJ9_min_7cf53 5 = .ok (.iload_n 0, 1) := by decide +kernel
theorem dJ9_min_7cf53_6 : decode cJ9_min_7cf53 6 = .ok (.goto 4, 3) := by decide +kernel
theorem dJ9_min_7cf53_9 : decode cJ9_min_7cf53 9 = .ok (.iload_n 1, 1) := by decide +kernel
theorem dJ9_min_7cf53_10 : decode cJ9_min_7cf53 10 = .ok (.ireturn, 1) := by decide +kernel
theorem dL_below_0 : decode cL_below 0 = .ok (.iload_n 0, 1) := by decide +kernel
theorem dL_below_1 : decode cL_below 1 = .ok (.ldc 7, 2) := by decide +kernel
theorem dL_below_3 : decode cL_below 3 = .ok (.iand, 1) := by decide +kernel
theorem dL_below_4 : decode cL_below 4 = .ok (.iload_n 1, 1) := by decide +kernel
theorem dL_below_5 : decode cL_below 5 = .ok (.irem, 1) := by decide +kernel
theorem dL_below_6 : decode cL_below 6 = .ok (.ireturn, 1) := by decide +kernel
theorem dL_cell_0 : decode cL_cell 0 = .ok (.iload_n 1, 1) := by decide +kernel
theorem dL_cell_1 : decode cL_cell 1 = .ok (.aload_n 0, 1) := by decide +kernel
theorem dL_cell_2 : decode cL_cell 2 = .ok (.arraylength, 1) := by decide +kernel
theorem dL_cell_3 : decode cL_cell 3 = .ok (.if_icmp .ge 9, 3) := by decide +kernel
theorem dL_cell_6 : decode cL_cell 6 = .ok (.aload_n 0, 1) := by decide +kernel
theorem dL_cell_7 : decode cL_cell 7 = .ok (.iload_n 1, 1) := by decide +kernel
theorem dL_cell_8 : decode cL_cell 8 = .ok (.iaload, 1) := by decide +kernel
theorem dL_cell_9 : decode cL_cell 9 = .ok (.goto 9, 3) := by decide +kernel
theorem dL_cell_12 : decode cL_cell 12 = .ok (.ldc 8, 2) := by decide +kernel
theorem dL_cell_14 : decode cL_cell 14 = .ok (.iload_n 1, 1) := by decide +kernel
theorem dL_cell_15 : decode cL_cell 15 = .ok (.iconst 3, 1) := by decide +kernel
theorem dL_cell_16 : decode cL_cell 16 = .ok (.iadd, 1) := by decide +kernel
theorem dL_cell_17 : decode cL_cell 17 = .ok (.imul, 1) := by decide +kernel
theorem dL_cell_18 : decode cL_cell 18 = .ok (.ireturn, 1) := by decide +kernel
abbrev vwCl : List vw_C := [(RX0, TX0, 6), (RX1, TX1, 3), (RX2, TX2, 4), (RX3, TX3, 5), (RX4, TX4, 13), (RX5, TX5, 4), (RX6, TX6, 13)]
