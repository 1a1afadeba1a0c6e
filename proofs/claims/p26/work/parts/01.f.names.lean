theorem dX5_ofFunction_1 : decode cX5_ofFunction 1 = .ok (.iload_n 1, 1) := by decide +kernel
theorem dX5_ofFunction_2 : decode cX5_ofFunction 2 = .ok (.invokevirtual 46, 3) := by decide +kernel
theorem dX5_ofFunction_5 : decode cX5_ofFunction 5 = .ok (.iload_n 2, 1) := by decide +kernel
theorem dX5_ofFunction_6 : decode cX5_ofFunction 6 = .ok (.bipush 10, 2) := by decide +kernel
theorem dX5_ofFunction_8 : decode cX5_ofFunction 8 = .ok (.invokestatic 133, 3) := by decide +kernel
theorem dX5_ofFunction_11 : decode cX5_ofFunction 11 = .ok (.aload_n 0, 1) := by decide +kernel
theorem dX5_ofFunction_12 : decode cX5_ofFunction 12 = .ok (.getfield 10, 3) := by decide +kernel
theorem dX5_ofFunction_15 : decode cX5_ofFunction 15 = .ok (.getfield 59, 3) := by decide +kernel
theorem dX5_ofFunction_18 : decode cX5_ofFunction 18 = .ok (.iload_n 1, 1) := by decide +kernel
theorem dX5_ofFunction_19 : decode cX5_ofFunction 19 = .ok (.aaload, 1) := by decide +kernel
theorem dX5_ofFunction_20 : decode cX5_ofFunction 20 = .ok (.astore_n 3, 1) := by decide +kernel
theorem dX5_ofFunction_21 : decode cX5_ofFunction 21 = .ok (.iload_n 2, 1) := by decide +kernel
theorem dX5_ofFunction_22 : decode cX5_ofFunction 22 = .ok (.tableswitch 152 0 9 #[54, 59, 64, 69, 89, 101, 113, 125, 134, 143], 54) := by decide +kernel
theorem dX5_ofFunction_76 : decode cX5_ofFunction 76 = .ok (.aload_n 3, 1) := by decide +kernel
theorem dX5_ofFunction_77 : decode cX5_ofFunction 77 = .ok (.getfield 63, 3) := by decide +kernel
theorem dX5_ofFunction_80 : decode cX5_ofFunction 80 = .ok (.ireturn, 1) := by decide +kernel
theorem dX5_ofFunction_81 : decode cX5_ofFunction 81 = .ok (.aload_n 3, 1) := by decide +kernel
theorem dX5_ofFunction_82 : decode cX5_ofFunction 82 = .ok (.getfield 89, 3) := by decide +kernel
theorem dX5_ofFunction_85 : decode cX5_ofFunction 85 = .ok (.ireturn, 1) := by decide +kernel
theorem dX5_ofFunction_86 : decode cX5_ofFunction 86 = .ok (.aload_n 3, 1) := by decide +kernel
theorem dX5_ofFunction_87 : decode cX5_ofFunction 87 = .ok (.getfield 96, 3) := by decide +kernel
theorem dX5_ofFunction_90 : decode cX5_ofFunction 90 = .ok (.ireturn, 1) := by decide +kernel
theorem dX5_ofFunction_91 : decode cX5_ofFunction 91 = .ok (.aload_n 0, 1) := by decide +kernel
theorem dX5_ofFunction_92 : decode cX5_ofFunction 92 = .ok (.getfield 10, 3) := by decide +kernel
theorem dX5_ofFunction_95 : decode cX5_ofFunction 95 = .ok (.getfield 114, 3) := by decide +kernel
theorem dX5_ofFunction_98 : decode cX5_ofFunction 98 = .ok (.iload_n 1, 1) := by decide +kernel
theorem dX5_ofFunction_99 : decode cX5_ofFunction 99 = .ok (.invokestatic 117, 3) := by decide +kernel
theorem dX5_ofFunction_102 : decode cX5_ofFunction 102 = .ok (.ifCond .eq 7, 3) := by decide +kernel
theorem dX5_ofFunction_105 : decode cX5_ofFunction 105 = .ok (.iconst 1, 1) := by decide +kernel
theorem dX5_ofFunction_106 : decode cX5_ofFunction 106 = .ok (.goto 4, 3) := by decide +kernel
theorem dX5_ofFunction_109 : decode cX5_ofFunction 109 = .ok (.iconst 0, 1) := by decide +kernel
theorem dX5_ofFunction_110 : decode cX5_ofFunction 110 = .ok (.ireturn, 1) := by decide +kernel
theorem dX5_ofFunction_111 : decode cX5_ofFunction 111 = .ok (.aload_n 0, 1) := by decide +kernel
theorem dX5_ofFunction_112 : decode cX5_ofFunction 112 = .ok (.getfield 10, 3) := by decide +kernel
theorem dX5_ofFunction_115 : decode cX5_ofFunction 115 = .ok (.iload_n 1, 1) := by decide +kernel
theorem dX5_ofFunction_116 : decode cX5_ofFunction 116 = .ok (.invokevirtual 102, 3) := by decide +kernel
theorem dX5_ofFunction_119 : decode cX5_ofFunction 119 = .ok (.getfield 136, 3) := by decide +kernel
theorem dX5_ofFunction_122 : decode cX5_ofFunction 122 = .ok (.ireturn, 1) := by decide +kernel
theorem dX5_ofFunction_123 : decode cX5_ofFunction 123 = .ok (.aload_n 0, 1) := by decide +kernel
theorem dX5_ofFunction_124 : decode cX5_ofFunction 124 = .ok (.getfield 10, 3) := by decide +kernel
theorem dX5_ofFunction_127 : decode cX5_ofFunction 127 = .ok (.iload_n 1, 1) := by decide +kernel
theorem dX5_ofFunction_128 : decode cX5_ofFunction 128 = .ok (.invokevirtual 102, 3) := by decide +kernel
theorem dX5_ofFunction_131 : decode cX5_ofFunction 131 = .ok (.getfield 139, 3) := by decide +kernel
theorem dX5_ofFunction_134 : decode cX5_ofFunction 134 = .ok (.ireturn, 1) := by decide +kernel
theorem dX5_ofFunction_135 : decode cX5_ofFunction 135 = .ok (.aload_n 0, 1) := by decide +kernel
theorem dX5_ofFunction_136 : decode cX5_ofFunction 136 = .ok (.getfield 10, 3) := by decide +kernel
theorem dX5_ofFunction_139 : decode cX5_ofFunction 139 = .ok (.iload_n 1, 1) := by decide +kernel
theorem dX5_ofFunction_140 : decode cX5_ofFunction 140 = .ok (.invokevirtual 102, 3) := by decide +kernel
theorem dX5_ofFunction_143 : decode cX5_ofFunction 143 = .ok (.getfield 142, 3) := by decide +kernel
theorem dX5_ofFunction_146 : decode cX5_ofFunction 146 = .ok (.ireturn, 1) := by decide +kernel
theorem dX5_ofFunction_147 : decode cX5_ofFunction 147 = .ok (.aload_n 0, 1) := by decide +kernel
theorem dX5_ofFunction_148 : decode cX5_ofFunction 148 = .ok (.getfield 10, 3) := by decide +kernel
theorem dX5_ofFunction_151 : decode cX5_ofFunction 151 = .ok (.aload_n 3, 1) := by decide +kernel
theorem dX5_ofFunction_152 : decode cX5_ofFunction 152 = .ok (.invokevirtual 92, 3) := by decide +kernel
theorem dX5_ofFunction_155 : decode cX5_ofFunction 155 = .ok (.ireturn, 1) := by decide +kernel
theorem dX5_ofFunction_156 : decode cX5_ofFunction 156 = .ok (.aload_n 0, 1) := by decide +kernel
theorem dX5_ofFunction_157 : decode cX5_ofFunction 157 = .ok (.getfield 10, 3) := by decide +kernel
theorem dX5_ofFunction_160 : decode cX5_ofFunction 160 = .ok (.aload_n 3, 1) := by decide +kernel
theorem dX5_ofFunction_161 : decode cX5_ofFunction 161 = .ok (.invokevirtual 99, 3) := by decide +kernel
theorem dX5_ofFunction_164 : decode cX5_ofFunction 164 = .ok (.ireturn, 1) := by decide +kernel
theorem dX5_ofFunction_165 : decode cX5_ofFunction 165 = .ok (.aload_n 0, 1) := by decide +kernel
theorem dX5_ofFunction_166 : decode cX5_ofFunction 166 = .ok (.getfield 10, 3) := by decide +kernel
theorem dX5_ofFunction_169 : decode cX5_ofFunction 169 = .ok (.iload_n 1, 1) := by decide +kernel
theorem dX5_ofFunction_170 : decode cX5_ofFunction 170 = .ok (.invokevirtual 145, 3) := by decide +kernel
theorem dX5_ofFunction_173 : decode cX5_ofFunction 173 = .ok (.ireturn, 1) := by decide +kernel
theorem dX5_ofFunction_174 : decode cX5_ofFunction 174 = .ok (.aload_n 0, 1) := by decide +kernel
theorem dX5_ofFunction_175 : decode cX5_ofFunction 175 = .ok (.getfield 28, 3) := by decide +kernel
theorem dX5_ofFunction_178 : decode cX5_ofFunction 178 = .ok (.iload_n 1, 1) := by decide +kernel
theorem dX5_ofFunction_179 : decode cX5_ofFunction 179 = .ok (.invokevirtual 149, 3) := by decide +kernel
theorem dX5_ofFunction_182 : decode cX5_ofFunction 182 = .ok (.ireturn, 1) := by decide +kernel
set_option maxRecDepth 20000 in
theorem ggX5_many_X5_requireWhat : GoodIn wsX5_many wsX5_requireWhat := goodIn_ca (goodIn_r _ [12, 13, 14] (by decide +kernel) (by decide +kernel)) (goodIn_sub (fun _ h => List.mem_cons_of_mem _ (List.mem_append_right _ h)) (by decide +kernel))
set_option maxRecDepth 20000 in
theorem gX5_many_X5_requireWhat : GoodIn wsX5_many (va_wsS RX5 133 yX5_requireWhat wsX5_requireWhat) := goodIn_app (goodIn_of _ (by decide +kernel)) ggX5_many_X5_requireWhat
set_option maxRecDepth 20000 in
theorem ggX5_many_J6_bitCount_0f7a4 : GoodIn wsX5_many wsJ6_bitCount_0f7a4 := goodIn_r _ [18, 19, 20, 21] (by decide +kernel) (by decide +kernel)
set_option maxRecDepth 20000 in
theorem gX5_many_J6_bitCount_0f7a4 : GoodIn wsX5_many (va_wsS RX5 152 yJ6_bitCount_0f7a4 wsJ6_bitCount_0f7a4) := goodIn_app (goodIn_of _ (by decide +kernel)) ggX5_many_J6_bitCount_0f7a4
set_option maxRecDepth 20000 in
theorem ggX5_many_X3_typable : GoodIn wsX5_many wsX3_typable := goodIn_r _ [26, 27, 28, 29, 30, 25, 31, 32, 33, 34, 35, 36, 37, 38, 39, 40, 41, 42, 43, 44, 45, 46, 47, 48, 49, 50, 11, 51, 52, 53, 54, 55, 56, 57, 58, 59, 60, 61, 62, 63, 64, 65, 66, 67, 68, 69, 97, 98, 99, 100, 101, 108, 109, 110, 111, 112, 113, 114] (by decide +kernel) (by decide +kernel)
set_option maxRecDepth 20000 in
theorem gX5_many_X3_typable : GoodIn wsX5_many (wsV RX5 157 RX3 yX3_typable wsX3_typable) := goodIn_app (goodIn_of _ (by decide +kernel)) ggX5_many_X3_typable
set_option maxRecDepth 20000 in
theorem ggX5_many_X3_allFaults : GoodIn wsX5_many wsX3_allFaults := goodIn_r _ [73, 27, 74, 28, 29, 30, 25, 31, 32, 33, 34, 35, 36, 37, 38, 39, 40, 41, 42, 43, 44, 45, 46, 47, 48, 49, 50, 11, 51, 52, 53, 54, 55, 56, 57, 58, 59, 60, 61, 62, 63, 97, 98, 99, 100, 101, 112, 113, 114, 108, 109, 110, 111] (by decide +kernel) (by decide +kernel)
set_option maxRecDepth 20000 in
theorem gX5_many_X3_allFaults : GoodIn wsX5_many (wsV RX5 160 RX3 yX3_allFaults wsX3_allFaults) := goodIn_app (goodIn_of _ (by decide +kernel)) ggX5_many_X3_allFaults
set_option maxRecDepth 20000 in
theorem ggX5_many_X5_tollWith : GoodIn wsX5_many wsX5_tollWith := goodIn_r _ [78, 1, 2, 5, 79, 80, 81, 82, 25, 83, 32, 34, 84, 11, 85, 86, 87, 88, 89, 37, 90, 91, 92, 93, 94, 95, 96, 97, 98, 99, 100, 101, 102, 103, 104, 105, 106, 107, 108, 109, 110, 111] (by decide +kernel) (by decide +kernel)
set_option maxRecDepth 20000 in
theorem gX5_many_X5_tollWith : GoodIn wsX5_many (wsV RX5 175 RX5 yX5_tollWith wsX5_tollWith) := goodIn_app (goodIn_of _ (by decide +kernel)) ggX5_many_X5_tollWith
theorem dX5_many_0 : decode cX5_many 0 = .ok (.iload_n 1, 1) := by decide +kernel
theorem dX5_many_1 : decode cX5_many 1 = .ok (.bipush 8, 2) := by decide +kernel
theorem dX5_many_3 : decode cX5_many 3 = .ok (.invokestatic 133, 3) := by decide +kernel
theorem dX5_many_6 : decode cX5_many 6 = .ok (.iload_n 1, 1) := by decide +kernel
theorem dX5_many_7 : decode cX5_many 7 = .ok (.tableswitch 115 0 7 #[45, 53, 64, 75, 83, 91, 99, 107], 45) := by decide +kernel
theorem dX5_many_52 : decode cX5_many 52 = .ok (.aload_n 0, 1) := by decide +kernel
theorem dX5_many_53 : decode cX5_many 53 = .ok (.getfield 10, 3) := by decide +kernel
theorem dX5_many_56 : decode cX5_many 56 = .ok (.getfield 36, 3) := by decide +kernel
theorem dX5_many_59 : decode cX5_many 59 = .ok (.ireturn, 1) := by decide +kernel
theorem dX5_many_60 : decode cX5_many 60 = .ok (.aload_n 0, 1) := by decide +kernel
theorem dX5_many_61 : decode cX5_many 61 = .ok (.getfield 10, 3) := by decide +kernel
theorem dX5_many_64 : decode cX5_many 64 = .ok (.getfield 114, 3) := by decide +kernel
theorem dX5_many_67 : decode cX5_many 67 = .ok (.invokestatic 152, 3) := by decide +kernel
theorem dX5_many_70 : decode cX5_many 70 = .ok (.ireturn, 1) := by decide +kernel
theorem dX5_many_71 : decode cX5_many 71 = .ok (.aload_n 0, 1) := by decide +kernel
theorem dX5_many_72 : decode cX5_many 72 = .ok (.getfield 10, 3) := by decide +kernel
theorem dX5_many_75 : decode cX5_many 75 = .ok (.invokevirtual 157, 3) := by decide +kernel
theorem dX5_many_78 : decode cX5_many 78 = .ok (.invokestatic 152, 3) := by decide +kernel
theorem dX5_many_81 : decode cX5_many 81 = .ok (.ireturn, 1) := by decide +kernel
theorem dX5_many_82 : decode cX5_many 82 = .ok (.aload_n 0, 1) := by decide +kernel
theorem dX5_many_83 : decode cX5_many 83 = .ok (.getfield 10, 3) := by decide +kernel
theorem dX5_many_86 : decode cX5_many 86 = .ok (.invokevirtual 160, 3) := by decide +kernel
theorem dX5_many_89 : decode cX5_many 89 = .ok (.ireturn, 1) := by decide +kernel
theorem dX5_many_90 : decode cX5_many 90 = .ok (.aload_n 0, 1) := by decide +kernel
theorem dX5_many_91 : decode cX5_many 91 = .ok (.getfield 10, 3) := by decide +kernel
theorem dX5_many_94 : decode cX5_many 94 = .ok (.getfield 163, 3) := by decide +kernel
theorem dX5_many_97 : decode cX5_many 97 = .ok (.ireturn, 1) := by decide +kernel
theorem dX5_many_98 : decode cX5_many 98 = .ok (.aload_n 0, 1) := by decide +kernel
theorem dX5_many_99 : decode cX5_many 99 = .ok (.getfield 28, 3) := by decide +kernel
theorem dX5_many_102 : decode cX5_many 102 = .ok (.getfield 166, 3) := by decide +kernel
theorem dX5_many_105 : decode cX5_many 105 = .ok (.ireturn, 1) := by decide +kernel
theorem dX5_many_106 : decode cX5_many 106 = .ok (.aload_n 0, 1) := by decide +kernel
theorem dX5_many_107 : decode cX5_many 107 = .ok (.getfield 28, 3) := by decide +kernel
theorem dX5_many_110 : decode cX5_many 110 = .ok (.getfield 169, 3) := by decide +kernel
theorem dX5_many_113 : decode cX5_many 113 = .ok (.ireturn, 1) := by decide +kernel
theorem dX5_many_114 : decode cX5_many 114 = .ok (.aload_n 0, 1) := by decide +kernel
theorem dX5_many_115 : decode cX5_many 115 = .ok (.getfield 28, 3) := by decide +kernel
theorem dX5_many_118 : decode cX5_many 118 = .ok (.getfield 172, 3) := by decide +kernel
theorem dX5_many_121 : decode cX5_many 121 = .ok (.ireturn, 1) := by decide +kernel
theorem dX5_many_122 : decode cX5_many 122 = .ok (.aload_n 0, 1) := by decide +kernel
theorem dX5_many_123 : decode cX5_many 123 = .ok (.aload_n 0, 1) := by decide +kernel
theorem dX5_many_124 : decode cX5_many 124 = .ok (.getfield 10, 3) := by decide +kernel
theorem dX5_many_127 : decode cX5_many 127 = .ok (.getfield 114, 3) := by decide +kernel
theorem dX5_many_130 : decode cX5_many 130 = .ok (.invokevirtual 175, 3) := by decide +kernel
theorem dX5_many_133 : decode cX5_many 133 = .ok (.ireturn, 1) := by decide +kernel
set_option maxRecDepth 20000 in
theorem ggX5_budget_X5_requireBudget : GoodIn wsX5_budget wsX5_requireBudget := goodIn_ca (goodIn_r _ [5, 6, 7] (by decide +kernel) (by decide +kernel)) (goodIn_sub (fun _ h => List.mem_cons_of_mem _ (List.mem_append_right _ h)) (by decide +kernel))
set_option maxRecDepth 20000 in
theorem gX5_budget_X5_requireBudget : GoodIn wsX5_budget (va_wsS RX5 178 yX5_requireBudget wsX5_requireBudget) := goodIn_app (goodIn_of _ (by decide +kernel)) ggX5_budget_X5_requireBudget
theorem dX5_budget_0 : decode cX5_budget 0 = .ok (.iload_n 1, 1) := by decide +kernel
theorem dX5_budget_1 : decode cX5_budget 1 = .ok (.invokestatic 178, 3) := by decide +kernel
theorem dX5_budget_4 : decode cX5_budget 4 = .ok (.aload_n 0, 1) := by decide +kernel
theorem dX5_budget_5 : decode cX5_budget 5 = .ok (.getfield 32, 3) := by decide +kernel
theorem dX5_budget_8 : decode cX5_budget 8 = .ok (.istore_n 2, 1) := by decide +kernel
theorem dX5_budget_9 : decode cX5_budget 9 = .ok (.aload_n 0, 1) := by decide +kernel
theorem dX5_budget_10 : decode cX5_budget 10 = .ok (.iload_n 1, 1) := by decide +kernel
theorem dX5_budget_11 : decode cX5_budget 11 = .ok (.putfield 32, 3) := by decide +kernel
theorem dX5_budget_14 : decode cX5_budget 14 = .ok (.iload_n 2, 1) := by decide +kernel
theorem dX5_budget_15 : decode cX5_budget 15 = .ok (.ireturn, 1) := by decide +kernel
set_option maxRecDepth 20000 in
theorem ggX5_run_X5_requireFunction : GoodIn wsX5_run wsX5_requireFunction := goodIn_ca (goodIn_r _ [9, 10, 11, 12, 13, 141, 142, 143, 144, 158, 159, 160, 161, 162] (by decide +kernel) (by decide +kernel)) (goodIn_sub (fun _ h => List.mem_cons_of_mem _ (List.mem_append_left _ (List.mem_append_right _ h))) (by decide +kernel))
set_option maxRecDepth 20000 in
theorem gX5_run_X5_requireFunction : GoodIn wsX5_run (wsV RX5 46 RX5 yX5_requireFunction wsX5_requireFunction) := goodIn_app (goodIn_of _ (by decide +kernel)) ggX5_run_X5_requireFunction
set_option maxRecDepth 20000 in
theorem ggX5_run_X5_requireValue : GoodIn wsX5_run wsX5_requireValue := goodIn_ca (goodIn_r _ [16, 17, 18, 19, 20, 8, 21] (by decide +kernel) (by decide +kernel)) (goodIn_sub (fun _ h => List.mem_cons_of_mem _ (List.mem_append_right _ h)) (by decide +kernel))
set_option maxRecDepth 20000 in
theorem gX5_run_X5_requireValue : GoodIn wsX5_run (va_wsS RX5 181 yX5_requireValue wsX5_requireValue) := goodIn_app (goodIn_of _ (by decide +kernel)) ggX5_run_X5_requireValue
set_option maxRecDepth 20000 in
theorem ggX5_run_X4_tryOut : GoodIn wsX5_run wsX4_tryOut := goodIn_r _ [26, 27, 28, 29, 30, 31, 32, 25, 33, 34, 35, 36, 37, 38, 39, 40, 41, 42, 43, 44, 45, 46, 47, 48, 49, 50, 51, 52, 53, 54, 55, 56, 57, 58, 59, 60, 8, 61, 62, 63, 64, 65, 66, 67, 68, 69, 70, 71, 72, 73, 74, 75, 76, 77, 78, 79, 80, 81, 82, 83, 84, 85, 86, 87, 88, 89, 90, 91, 92, 93, 94, 95, 96, 97, 98, 99, 100, 101, 102, 103, 104, 105, 106, 107, 108, 109, 145, 146, 147, 148, 149, 150, 151, 152, 153, 154, 155, 156, 157, 158, 159, 160, 161, 162, 163, 164, 165, 166] (by decide +kernel) (by decide +kernel)
set_option maxRecDepth 20000 in
theorem gX5_run_X4_tryOut : GoodIn wsX5_run (wsV RX5 184 RX4 yX4_tryOut wsX4_tryOut) := goodIn_app (goodIn_of _ (by decide +kernel)) ggX5_run_X4_tryOut
set_option maxRecDepth 20000 in
theorem ggX5_run_X0_enter : GoodIn wsX5_run wsX0_enter := goodIn_r _ [114, 115, 116, 117, 118, 119, 120, 121, 122, 123, 25, 124, 35, 36, 125, 126, 127, 113, 128, 129, 130, 131, 132, 133, 134, 135, 136, 137, 138, 139, 140, 167, 168, 169, 170, 171, 172, 145, 146, 147, 148, 149, 150, 151, 152, 153, 154, 155, 156, 157] (by decide +kernel) (by decide +kernel)
set_option maxRecDepth 20000 in
theorem gX5_run_X0_enter : GoodIn wsX5_run (wsV RX5 188 RX0 yX0_enter wsX0_enter) := goodIn_app (goodIn_of _ (by decide +kernel)) ggX5_run_X0_enter
theorem dX5_run_0 : decode cX5_run 0 = .ok (.aload_n 0, 1) := by decide +kernel
theorem dX5_run_1 : decode cX5_run 1 = .ok (.iload_n 1, 1) := by decide +kernel
theorem dX5_run_2 : decode cX5_run 2 = .ok (.invokevirtual 46, 3) := by decide +kernel
theorem dX5_run_5 : decode cX5_run 5 = .ok (.iload_n 2, 1) := by decide +kernel
theorem dX5_run_6 : decode cX5_run 6 = .ok (.iload_n 3, 1) := by decide +kernel
theorem dX5_run_7 : decode cX5_run 7 = .ok (.invokestatic 181, 3) := by decide +kernel
theorem dX5_run_10 : decode cX5_run 10 = .ok (.aload_n 0, 1) := by decide +kernel
theorem dX5_run_11 : decode cX5_run 11 = .ok (.getfield 21, 3) := by decide +kernel
theorem dX5_run_14 : decode cX5_run 14 = .ok (.iload_n 1, 1) := by decide +kernel
theorem dX5_run_15 : decode cX5_run 15 = .ok (.iload_n 2, 1) := by decide +kernel
theorem dX5_run_16 : decode cX5_run 16 = .ok (.iload_n 3, 1) := by decide +kernel
theorem dX5_run_17 : decode cX5_run 17 = .ok (.aload_n 0, 1) := by decide +kernel
theorem dX5_run_18 : decode cX5_run 18 = .ok (.getfield 32, 3) := by decide +kernel
theorem dX5_run_21 : decode cX5_run 21 = .ok (.invokevirtual 184, 3) := by decide +kernel
theorem dX5_run_24 : decode cX5_run 24 = .ok (.aload_n 0, 1) := by decide +kernel
theorem dX5_run_25 : decode cX5_run 25 = .ok (.getfield 28, 3) := by decide +kernel
theorem dX5_run_28 : decode cX5_run 28 = .ok (.aload_n 0, 1) := by decide +kernel
theorem dX5_run_29 : decode cX5_run 29 = .ok (.getfield 21, 3) := by decide +kernel
theorem dX5_run_32 : decode cX5_run 32 = .ok (.invokevirtual 188, 3) := by decide +kernel
theorem dX5_run_35 : decode cX5_run 35 = .ok (.aload_n 0, 1) := by decide +kernel
theorem dX5_run_36 : decode cX5_run 36 = .ok (.getfield 21, 3) := by decide +kernel
theorem dX5_run_39 : decode cX5_run 39 = .ok (.getfield 192, 3) := by decide +kernel
theorem dX5_run_42 : decode cX5_run 42 = .ok (.ireturn, 1) := by decide +kernel
set_option maxRecDepth 20000 in
theorem ggX5_latest_X5_requireWhat : GoodIn wsX5_latest wsX5_requireWhat := goodIn_ca (goodIn_r _ [6, 7, 8] (by decide +kernel) (by decide +kernel)) (goodIn_sub (fun _ h => List.mem_cons_of_mem _ (List.mem_append_right _ h)) (by decide +kernel))
set_option maxRecDepth 20000 in
theorem gX5_latest_X5_requireWhat : GoodIn wsX5_latest (va_wsS RX5 133 yX5_requireWhat wsX5_requireWhat) := goodIn_app (goodIn_of _ (by decide +kernel)) ggX5_latest_X5_requireWhat
theorem dX5_latest_0 : decode cX5_latest 0 = .ok (.iload_n 1, 1) := by decide +kernel
theorem dX5_latest_1 : decode cX5_latest 1 = .ok (.bipush 7, 2) := by decide +kernel
theorem dX5_latest_3 : decode cX5_latest 3 = .ok (.invokestatic 133, 3) := by decide +kernel
theorem dX5_latest_6 : decode cX5_latest 6 = .ok (.aload_n 0, 1) := by decide +kernel
theorem dX5_latest_7 : decode cX5_latest 7 = .ok (.getfield 28, 3) := by decide +kernel
theorem dX5_latest_10 : decode cX5_latest 10 = .ok (.getfield 195, 3) := by decide +kernel
theorem dX5_latest_13 : decode cX5_latest 13 = .ok (.iload_n 1, 1) := by decide +kernel
theorem dX5_latest_14 : decode cX5_latest 14 = .ok (.iaload, 1) := by decide +kernel
theorem dX5_latest_15 : decode cX5_latest 15 = .ok (.ireturn, 1) := by decide +kernel
set_option maxRecDepth 20000 in
theorem ggX5_counted_X5_requireFunction : GoodIn wsX5_counted wsX5_requireFunction := goodIn_ca (goodIn_r _ [7, 8, 9, 10, 11, 15, 16, 17, 18, 25, 26, 27, 28, 29] (by decide +kernel) (by decide +kernel)) (goodIn_sub (fun _ h => List.mem_cons_of_mem _ (List.mem_append_right _ h)) (by decide +kernel))
set_option maxRecDepth 20000 in
theorem gX5_counted_X5_requireFunction : GoodIn wsX5_counted (wsV RX5 46 RX5 yX5_requireFunction wsX5_requireFunction) := goodIn_app (goodIn_of _ (by decide +kernel)) ggX5_counted_X5_requireFunction
set_option maxRecDepth 20000 in
theorem ggX5_counted_X5_rowOf : GoodIn wsX5_counted wsX5_rowOf := goodIn_r _ [14] (by decide +kernel) (by decide +kernel)
set_option maxRecDepth 20000 in
theorem gX5_counted_X5_rowOf : GoodIn wsX5_counted (va_wsS RX5 202 yX5_rowOf wsX5_rowOf) := goodIn_app (goodIn_of _ (by decide +kernel)) ggX5_counted_X5_rowOf
theorem dX5_counted_0 : decode cX5_counted 0 = .ok (.iload_n 1, 1) := by decide +kernel
theorem dX5_counted_1 : decode cX5_counted 1 = .ok (.iconst (-1), 1) := by decide +kernel
theorem dX5_counted_2 : decode cX5_counted 2 = .ok (.if_icmp .eq 8, 3) := by decide +kernel
theorem dX5_counted_5 : decode cX5_counted 5 = .ok (.aload_n 0, 1) := by decide +kernel
theorem dX5_counted_6 : decode cX5_counted 6 = .ok (.iload_n 1, 1) := by decide +kernel
theorem dX5_counted_7 : decode cX5_counted 7 = .ok (.invokevirtual 46, 3) := by decide +kernel
theorem dX5_counted_10 : decode cX5_counted 10 = .ok (.aload_n 0, 1) := by decide +kernel
theorem dX5_counted_11 : decode cX5_counted 11 = .ok (.iload_n 2, 1) := by decide +kernel
theorem dX5_counted_12 : decode cX5_counted 12 = .ok (.invokevirtual 46, 3) := by decide +kernel
theorem dX5_counted_15 : decode cX5_counted 15 = .ok (.aload_n 0, 1) := by decide +kernel
theorem dX5_counted_16 : decode cX5_counted 16 = .ok (.getfield 28, 3) := by decide +kernel
theorem dX5_counted_19 : decode cX5_counted 19 = .ok (.getfield 198, 3) := by decide +kernel
theorem dX5_counted_22 : decode cX5_counted 22 = .ok (.iload_n 1, 1) := by decide +kernel
theorem dX5_counted_23 : decode cX5_counted 23 = .ok (.invokestatic 202, 3) := by decide +kernel
theorem dX5_counted_26 : decode cX5_counted 26 = .ok (.aaload, 1) := by decide +kernel
theorem dX5_counted_27 : decode cX5_counted 27 = .ok (.iload_n 2, 1) := by decide +kernel
theorem dX5_counted_28 : decode cX5_counted 28 = .ok (.iaload, 1) := by decide +kernel
theorem dX5_counted_29 : decode cX5_counted 29 = .ok (.ireturn, 1) := by decide +kernel
set_option maxRecDepth 20000 in
theorem ggX5_blamed_X5_requireFunction : GoodIn wsX5_blamed wsX5_requireFunction := goodIn_ca (goodIn_r _ [7, 8, 9, 10, 11, 12, 13, 14, 15, 22, 23, 24, 25, 26] (by decide +kernel) (by decide +kernel)) (goodIn_sub (fun _ h => List.mem_cons_of_mem _ (List.mem_append_right _ h)) (by decide +kernel))
set_option maxRecDepth 20000 in
theorem gX5_blamed_X5_requireFunction : GoodIn wsX5_blamed (wsV RX5 46 RX5 yX5_requireFunction wsX5_requireFunction) := goodIn_app (goodIn_of _ (by decide +kernel)) ggX5_blamed_X5_requireFunction
theorem dX5_blamed_0 : decode cX5_blamed 0 = .ok (.aload_n 0, 1) := by decide +kernel
theorem dX5_blamed_1 : decode cX5_blamed 1 = .ok (.iload_n 1, 1) := by decide +kernel
theorem dX5_blamed_2 : decode cX5_blamed 2 = .ok (.invokevirtual 46, 3) := by decide +kernel
theorem dX5_blamed_5 : decode cX5_blamed 5 = .ok (.aload_n 0, 1) := by decide +kernel
theorem dX5_blamed_6 : decode cX5_blamed 6 = .ok (.getfield 28, 3) := by decide +kernel
theorem dX5_blamed_9 : decode cX5_blamed 9 = .ok (.getfield 205, 3) := by decide +kernel
theorem dX5_blamed_12 : decode cX5_blamed 12 = .ok (.iload_n 1, 1) := by decide +kernel
theorem dX5_blamed_13 : decode cX5_blamed 13 = .ok (.iaload, 1) := by decide +kernel
theorem dX5_blamed_14 : decode cX5_blamed 14 = .ok (.ireturn, 1) := by decide +kernel
set_option maxRecDepth 20000 in
theorem ggX5_gain_X5_requireFunction : GoodIn wsX5_gain wsX5_requireFunction := goodIn_ca (goodIn_r _ [5, 6, 7, 8, 9, 41, 42, 43, 44, 45, 46, 47, 48, 49] (by decide +kernel) (by decide +kernel)) (goodIn_sub (fun _ h => List.mem_cons_of_mem _ (List.mem_append_right _ h)) (by decide +kernel))
set_option maxRecDepth 20000 in
theorem gX5_gain_X5_requireFunction : GoodIn wsX5_gain (wsV RX5 46 RX5 yX5_requireFunction wsX5_requireFunction) := goodIn_app (goodIn_of _ (by decide +kernel)) ggX5_gain_X5_requireFunction
set_option maxRecDepth 20000 in
theorem ggX5_gain_X5_gainOf : GoodIn wsX5_gain wsX5_gainOf := goodIn_r _ [13, 8, 14, 15, 16, 17, 4, 18, 9, 19, 20, 21, 22, 23, 24, 25, 26, 27, 28, 29, 30, 31, 32, 33, 34, 35, 36, 37, 38, 39, 40, 41, 42, 43, 44, 45, 46, 47, 48, 49, 50, 51, 52, 53, 54, 55, 56, 57, 58, 59] (by decide +kernel) (by decide +kernel)
set_option maxRecDepth 20000 in
theorem gX5_gain_X5_gainOf : GoodIn wsX5_gain (wsV RX5 208 RX5 yX5_gainOf wsX5_gainOf) := goodIn_app (goodIn_of _ (by decide +kernel)) ggX5_gain_X5_gainOf
theorem dX5_gain_0 : decode cX5_gain 0 = .ok (.aload_n 0, 1) := by decide +kernel
theorem dX5_gain_1 : decode cX5_gain 1 = .ok (.iload_n 1, 1) := by decide +kernel
theorem dX5_gain_2 : decode cX5_gain 2 = .ok (.invokevirtual 46, 3) := by decide +kernel
theorem dX5_gain_5 : decode cX5_gain 5 = .ok (.aload_n 0, 1) := by decide +kernel
theorem dX5_gain_6 : decode cX5_gain 6 = .ok (.iload_n 1, 1) := by decide +kernel
theorem dX5_gain_7 : decode cX5_gain 7 = .ok (.invokevirtual 208, 3) := by decide +kernel
theorem dX5_gain_10 : decode cX5_gain 10 = .ok (.ireturn, 1) := by decide +kernel
set_option maxRecDepth 20000 in
theorem ggX5_next_X5_nextToType : GoodIn wsX5_next wsX5_nextToType := goodIn_r _ [5, 6, 7, 8, 9, 10, 11, 12, 13, 14, 15, 16, 17, 18, 19, 20, 21, 22, 23, 24, 25, 26, 27, 28, 29, 30, 31, 32, 33, 34, 35, 36, 37, 4, 38, 39, 40, 41, 42, 43, 44, 45, 46, 47, 48, 49, 50, 51, 52, 53, 54, 55, 56, 57, 58, 59, 60, 61, 62, 63, 64, 65, 66, 67, 68, 69, 70, 71, 72, 73, 74, 75, 76, 77, 78, 79, 80, 81, 82, 83, 84, 85, 86, 87, 88, 89, 90, 91, 92, 93, 94, 95, 96, 97, 98, 99, 100, 101, 102, 103] (by decide +kernel) (by decide +kernel)
set_option maxRecDepth 20000 in
theorem gX5_next_X5_nextToType : GoodIn wsX5_next (wsV RX5 211 RX5 yX5_nextToType wsX5_nextToType) := goodIn_app (goodIn_of _ (by decide +kernel)) ggX5_next_X5_nextToType
theorem dX5_next_0 : decode cX5_next 0 = .ok (.aload_n 0, 1) := by decide +kernel
theorem dX5_next_1 : decode cX5_next 1 = .ok (.invokevirtual 211, 3) := by decide +kernel
theorem dX5_next_4 : decode cX5_next 4 = .ok (.ireturn, 1) := by decide +kernel
set_option maxRecDepth 20000 in
theorem ggX5_migrate_X5_nextToType : GoodIn wsX5_migrate wsX5_nextToType := goodIn_r _ [9, 3, 4, 10, 11, 12, 13, 14, 15, 16, 17, 18, 19, 20, 21, 22, 23, 24, 25, 26, 27, 28, 29, 30, 31, 32, 33, 34, 35, 36, 37, 38, 39, 8, 40, 41, 42, 43, 44, 45, 46, 47, 48, 49, 50, 51, 52, 53, 54, 55, 56, 57, 58, 59, 60, 61, 62, 63, 64, 65, 66, 67, 68, 69, 70, 71, 72, 73, 74, 75, 76, 77, 78, 79, 80, 81, 82, 83, 84, 85, 86, 87, 88, 89, 90, 91, 92, 93, 94, 95, 96, 97, 98, 99, 100, 101, 102, 103, 104, 105] (by decide +kernel) (by decide +kernel)
set_option maxRecDepth 20000 in
theorem gX5_migrate_X5_nextToType : GoodIn wsX5_migrate (wsV RX5 211 RX5 yX5_nextToType wsX5_nextToType) := goodIn_app (goodIn_of _ (by decide +kernel)) ggX5_migrate_X5_nextToType
set_option maxRecDepth 20000 in
theorem ggX5_migrate_X5_gainOf : GoodIn wsX5_migrate wsX5_gainOf := goodIn_r _ [65, 3, 4, 66, 67, 68, 8, 69, 10, 70, 71, 72, 73, 74, 14, 75, 21, 23, 60, 61, 76, 77, 78, 79, 26, 80, 81, 82, 83, 57, 58, 84, 85, 86, 87, 88, 89, 90, 91, 92, 100, 101, 102, 103, 104, 105, 93, 94, 95, 96] (by decide +kernel) (by decide +kernel)
set_option maxRecDepth 20000 in
theorem gX5_migrate_X5_gainOf : GoodIn wsX5_migrate (wsV RX5 208 RX5 yX5_gainOf wsX5_gainOf) := goodIn_app (goodIn_of _ (by decide +kernel)) ggX5_migrate_X5_gainOf
set_option maxRecDepth 20000 in
theorem ggX5_migrate_X5_with : GoodIn wsX5_migrate wsX5_with := goodIn_r _ [58] (by decide +kernel) (by decide +kernel)
set_option maxRecDepth 20000 in
theorem gX5_migrate_X5_with : GoodIn wsX5_migrate (va_wsS RX5 121 yX5_with wsX5_with) := goodIn_app (goodIn_of _ (by decide +kernel)) ggX5_migrate_X5_with
theorem dX5_migrate_0 : decode cX5_migrate 0 = .ok (.iload_n 1, 1) := by decide +kernel
theorem dX5_migrate_1 : decode cX5_migrate 1 = .ok (.iconst 1, 1) := by decide +kernel
theorem dX5_migrate_2 : decode cX5_migrate 2 = .ok (.if_icmp .lt 9, 3) := by decide +kernel
theorem dX5_migrate_5 : decode cX5_migrate 5 = .ok (.iload_n 1, 1) := by decide +kernel
theorem dX5_migrate_6 : decode cX5_migrate 6 = .ok (.bipush 10, 2) := by decide +kernel
theorem dX5_migrate_8 : decode cX5_migrate 8 = .ok (.if_icmp .le 13, 3) := by decide +kernel
theorem dX5_migrate_11 : decode cX5_migrate 11 = .ok (.new 54, 3) := by decide +kernel
theorem dX5_migrate_14 : decode cX5_migrate 14 = .ok (.dup, 1) := by decide +kernel
theorem dX5_migrate_15 : decode cX5_migrate 15 = .ok (.ldc 214, 2) := by decide +kernel
theorem dX5_migrate_17 : decode cX5_migrate 17 = .ok (.invokespecial 58, 3) := by decide +kernel
theorem dX5_migrate_20 : decode cX5_migrate 20 = .ok (.athrow, 1) := by decide +kernel
theorem dX5_migrate_21 : decode cX5_migrate 21 = .ok (.iconst 0, 1) := by decide +kernel
theorem dX5_migrate_22 : decode cX5_migrate 22 = .ok (.istore_n 2, 1) := by decide +kernel
theorem dX5_migrate_23 : decode cX5_migrate 23 = .ok (.iload_n 2, 1) := by decide +kernel
theorem dX5_migrate_24 : decode cX5_migrate 24 = .ok (.iload_n 1, 1) := by decide +kernel
theorem dX5_migrate_25 : decode cX5_migrate 25 = .ok (.if_icmp .ge 47, 3) := by decide +kernel
theorem dX5_migrate_28 : decode cX5_migrate 28 = .ok (.aload_n 0, 1) := by decide +kernel
theorem dX5_migrate_29 : decode cX5_migrate 29 = .ok (.invokevirtual 211, 3) := by decide +kernel
theorem dX5_migrate_32 : decode cX5_migrate 32 = .ok (.istore_n 3, 1) := by decide +kernel
theorem dX5_migrate_33 : decode cX5_migrate 33 = .ok (.iload_n 3, 1) := by decide +kernel
theorem dX5_migrate_34 : decode cX5_migrate 34 = .ok (.iconst (-1), 1) := by decide +kernel
theorem dX5_migrate_35 : decode cX5_migrate 35 = .ok (.if_icmp .eq 11, 3) := by decide +kernel
theorem dX5_migrate_38 : decode cX5_migrate 38 = .ok (.aload_n 0, 1) := by decide +kernel
theorem dX5_migrate_39 : decode cX5_migrate 39 = .ok (.iload_n 3, 1) := by decide +kernel
theorem dX5_migrate_40 : decode cX5_migrate 40 = .ok (.invokevirtual 208, 3) := by decide +kernel
theorem dX5_migrate_43 : decode cX5_migrate 43 = .ok (.ifCond .ge 5, 3) := by decide +kernel
theorem dX5_migrate_46 : decode cX5_migrate 46 = .ok (.iload_n 2, 1) := by decide +kernel
theorem dX5_migrate_47 : decode cX5_migrate 47 = .ok (.ireturn, 1) := by decide +kernel
theorem dX5_migrate_48 : decode cX5_migrate 48 = .ok (.aload_n 0, 1) := by decide +kernel
theorem dX5_migrate_49 : decode cX5_migrate 49 = .ok (.getfield 10, 3) := by decide +kernel
theorem dX5_migrate_52 : decode cX5_migrate 52 = .ok (.aload_n 0, 1) := by decide +kernel
theorem dX5_migrate_53 : decode cX5_migrate 53 = .ok (.getfield 10, 3) := by decide +kernel
theorem dX5_migrate_56 : decode cX5_migrate 56 = .ok (.getfield 114, 3) := by decide +kernel
theorem dX5_migrate_59 : decode cX5_migrate 59 = .ok (.iload_n 3, 1) := by decide +kernel
theorem dX5_migrate_60 : decode cX5_migrate 60 = .ok (.invokestatic 121, 3) := by decide +kernel
theorem dX5_migrate_63 : decode cX5_migrate 63 = .ok (.putfield 114, 3) := by decide +kernel
theorem dX5_migrate_66 : decode cX5_migrate 66 = .ok (.iinc 2 1, 3) := by decide +kernel
theorem dX5_migrate_69 : decode cX5_migrate 69 = .ok (.goto (-46), 3) := by decide +kernel
theorem dX5_migrate_72 : decode cX5_migrate 72 = .ok (.iload_n 1, 1) := by decide +kernel
theorem dX5_migrate_73 : decode cX5_migrate 73 = .ok (.ireturn, 1) := by decide +kernel
set_option maxRecDepth 20000 in
theorem ggX5_wouldBlame_X5_requireFunction : GoodIn wsX5_wouldBlame wsX5_requireFunction := goodIn_ca (goodIn_r _ [8, 9, 10, 11, 12, 109, 110, 111, 112, 126, 127, 128, 129, 130] (by decide +kernel) (by decide +kernel)) (goodIn_sub (fun _ h => List.mem_cons_of_mem _ (List.mem_append_left _ (List.mem_append_right _ h))) (by decide +kernel))
set_option maxRecDepth 20000 in
theorem gX5_wouldBlame_X5_requireFunction : GoodIn wsX5_wouldBlame (wsV RX5 46 RX5 yX5_requireFunction wsX5_requireFunction) := goodIn_app (goodIn_of _ (by decide +kernel)) ggX5_wouldBlame_X5_requireFunction
set_option maxRecDepth 20000 in
theorem ggX5_wouldBlame_X5_requireValue : GoodIn wsX5_wouldBlame wsX5_requireValue := goodIn_ca (goodIn_r _ [15, 16, 17, 18, 19, 7, 20] (by decide +kernel) (by decide +kernel)) (goodIn_sub (fun _ h => List.mem_cons_of_mem _ (List.mem_append_right _ h)) (by decide +kernel))
set_option maxRecDepth 20000 in
theorem gX5_wouldBlame_X5_requireValue : GoodIn wsX5_wouldBlame (va_wsS RX5 181 yX5_requireValue wsX5_requireValue) := goodIn_app (goodIn_of _ (by decide +kernel)) ggX5_wouldBlame_X5_requireValue
set_option maxRecDepth 20000 in
theorem ggX5_wouldBlame_X4_tryOut : GoodIn wsX5_wouldBlame wsX4_tryOut := goodIn_r _ [25, 26, 27, 28, 29, 30, 31, 24, 32, 33, 34, 35, 36, 37, 38, 39, 40, 41, 42, 43, 44, 45, 46, 47, 48, 49, 50, 51, 52, 53, 54, 55, 56, 57, 58, 59, 7, 60, 61, 62, 63, 64, 65, 66, 67, 68, 69, 70, 71, 72, 73, 74, 75, 76, 77, 78, 79, 80, 81, 82, 83, 84, 85, 86, 87, 88, 89, 90, 91, 92, 93, 94, 95, 96, 97, 98, 99, 100, 101, 102, 103, 104, 105, 106, 107, 108, 113, 114, 115, 116, 117, 118, 119, 120, 121, 122, 123, 124, 125, 126, 127, 128, 129, 130, 131, 132, 133, 134] (by decide +kernel) (by decide +kernel)
set_option maxRecDepth 20000 in
theorem gX5_wouldBlame_X4_tryOut : GoodIn wsX5_wouldBlame (wsV RX5 184 RX4 yX4_tryOut wsX4_tryOut) := goodIn_app (goodIn_of _ (by decide +kernel)) ggX5_wouldBlame_X4_tryOut
theorem dX5_wouldBlame_0 : decode cX5_wouldBlame 0 = .ok (.aload_n 0, 1) := by decide +kernel
theorem dX5_wouldBlame_1 : decode cX5_wouldBlame 1 = .ok (.iload_n 1, 1) := by decide +kernel
theorem dX5_wouldBlame_2 : decode cX5_wouldBlame 2 = .ok (.invokevirtual 46, 3) := by decide +kernel
theorem dX5_wouldBlame_5 : decode cX5_wouldBlame 5 = .ok (.iload_n 2, 1) := by decide +kernel
theorem dX5_wouldBlame_6 : decode cX5_wouldBlame 6 = .ok (.iload_n 3, 1) := by decide +kernel
theorem dX5_wouldBlame_7 : decode cX5_wouldBlame 7 = .ok (.invokestatic 181, 3) := by decide +kernel
theorem dX5_wouldBlame_10 : decode cX5_wouldBlame 10 = .ok (.aload_n 0, 1) := by decide +kernel
theorem dX5_wouldBlame_11 : decode cX5_wouldBlame 11 = .ok (.getfield 21, 3) := by decide +kernel
theorem dX5_wouldBlame_14 : decode cX5_wouldBlame 14 = .ok (.iload_n 1, 1) := by decide +kernel
theorem dX5_wouldBlame_15 : decode cX5_wouldBlame 15 = .ok (.iload_n 2, 1) := by decide +kernel
theorem dX5_wouldBlame_16 : decode cX5_wouldBlame 16 = .ok (.iload_n 3, 1) := by decide +kernel
theorem dX5_wouldBlame_17 : decode cX5_wouldBlame 17 = .ok (.aload_n 0, 1) := by decide +kernel
theorem dX5_wouldBlame_18 : decode cX5_wouldBlame 18 = .ok (.getfield 32, 3) := by decide +kernel
theorem dX5_wouldBlame_21 : decode cX5_wouldBlame 21 = .ok (.invokevirtual 184, 3) := by decide +kernel
theorem dX5_wouldBlame_24 : decode cX5_wouldBlame 24 = .ok (.aload_n 0, 1) := by decide +kernel
theorem dX5_wouldBlame_25 : decode cX5_wouldBlame 25 = .ok (.getfield 21, 3) := by decide +kernel
theorem dX5_wouldBlame_28 : decode cX5_wouldBlame 28 = .ok (.getfield 216, 3) := by decide +kernel
theorem dX5_wouldBlame_31 : decode cX5_wouldBlame 31 = .ok (.ireturn, 1) := by decide +kernel
set_option maxRecDepth 20000 in
theorem ggX5_untyped_X5_requireFunction : GoodIn wsX5_untyped wsX5_requireFunction := goodIn_ca (goodIn_r _ [6, 7, 8, 1, 9, 79, 80, 81, 82, 83, 84, 85, 86, 87] (by decide +kernel) (by decide +kernel)) (goodIn_sub (fun _ h => List.mem_cons_of_mem _ (List.mem_append_left _ (List.mem_append_right _ h))) (by decide +kernel))
set_option maxRecDepth 20000 in
theorem gX5_untyped_X5_requireFunction : GoodIn wsX5_untyped (wsV RX5 46 RX5 yX5_requireFunction wsX5_requireFunction) := goodIn_app (goodIn_of _ (by decide +kernel)) ggX5_untyped_X5_requireFunction
set_option maxRecDepth 20000 in
theorem ggX5_untyped_X5_requireHints : GoodIn wsX5_untyped wsX5_requireHints := goodIn_ca (goodIn_r _ [12, 13, 14] (by decide +kernel) (by decide +kernel)) (goodIn_sub (fun _ h => List.mem_cons_of_mem _ (List.mem_append_right _ h)) (by decide +kernel))
set_option maxRecDepth 20000 in
theorem gX5_untyped_X5_requireHints : GoodIn wsX5_untyped (va_wsS RX5 77 yX5_requireHints wsX5_requireHints) := goodIn_app (goodIn_of _ (by decide +kernel)) ggX5_untyped_X5_requireHints
set_option maxRecDepth 20000 in
theorem ggX5_untyped_X3_untypableWith : GoodIn wsX5_untyped wsX3_untypableWith := goodIn_r _ [19, 20, 21, 22, 23, 24, 25, 18, 26, 27, 28, 29, 30, 31, 32, 33, 34, 35, 36, 37, 38, 39, 40, 41, 42, 43, 44, 45, 46, 47, 48, 49, 50, 51, 52, 5, 53, 54, 55, 56, 57, 58, 59, 60, 61, 62, 63, 64, 65, 66, 67, 68, 69, 70, 71, 83, 84, 85, 86, 87, 88, 89, 90, 91, 92, 93, 94] (by decide +kernel) (by decide +kernel)
set_option maxRecDepth 20000 in
theorem gX5_untyped_X3_untypableWith : GoodIn wsX5_untyped (wsV RX5 222 RX3 yX3_untypableWith wsX3_untypableWith) := goodIn_app (goodIn_of _ (by decide +kernel)) ggX5_untyped_X3_untypableWith
set_option maxRecDepth 20000 in
theorem ggX5_untyped_J6_bitCount_0f7a4 : GoodIn wsX5_untyped wsJ6_bitCount_0f7a4 := goodIn_r _ [75, 76, 77, 78] (by decide +kernel) (by decide +kernel)
set_option maxRecDepth 20000 in
theorem gX5_untyped_J6_bitCount_0f7a4 : GoodIn wsX5_untyped (va_wsS RX5 152 yJ6_bitCount_0f7a4 wsJ6_bitCount_0f7a4) := goodIn_app (goodIn_of _ (by decide +kernel)) ggX5_untyped_J6_bitCount_0f7a4
theorem dX5_untyped_0 : decode cX5_untyped 0 = .ok (.aload_n 0, 1) := by decide +kernel
theorem dX5_untyped_1 : decode cX5_untyped 1 = .ok (.iload_n 1, 1) := by decide +kernel
theorem dX5_untyped_2 : decode cX5_untyped 2 = .ok (.invokevirtual 46, 3) := by decide +kernel
theorem dX5_untyped_5 : decode cX5_untyped 5 = .ok (.iload_n 2, 1) := by decide +kernel
theorem dX5_untyped_6 : decode cX5_untyped 6 = .ok (.iload_n 3, 1) := by decide +kernel
theorem dX5_untyped_7 : decode cX5_untyped 7 = .ok (.invokestatic 77, 3) := by decide +kernel
theorem dX5_untyped_10 : decode cX5_untyped 10 = .ok (.aload_n 0, 1) := by decide +kernel
theorem dX5_untyped_11 : decode cX5_untyped 11 = .ok (.getfield 10, 3) := by decide +kernel
theorem dX5_untyped_14 : decode cX5_untyped 14 = .ok (.iload_n 1, 1) := by decide +kernel
theorem dX5_untyped_15 : decode cX5_untyped 15 = .ok (.iload_n 2, 1) := by decide +kernel
theorem dX5_untyped_16 : decode cX5_untyped 16 = .ok (.iload_n 3, 1) := by decide +kernel
theorem dX5_untyped_17 : decode cX5_untyped 17 = .ok (.invokevirtual 222, 3) := by decide +kernel
theorem dX5_untyped_20 : decode cX5_untyped 20 = .ok (.invokestatic 152, 3) := by decide +kernel
theorem dX5_untyped_23 : decode cX5_untyped 23 = .ok (.ireturn, 1) := by decide +kernel
set_option maxRecDepth 20000 in
theorem ggX5_tollAtBest_X3_typable : GoodIn wsX5_tollAtBest wsX3_typable := goodIn_r _ [6, 7, 8, 9, 10, 5, 11, 12, 13, 14, 15, 16, 17, 18, 19, 20, 21, 22, 23, 24, 25, 26, 27, 28, 29, 30, 31, 32, 33, 34, 35, 36, 37, 38, 39, 40, 41, 42, 43, 44, 45, 46, 47, 48, 49, 50, 75, 76, 77, 78, 79, 80, 81, 82, 83, 84, 85, 86] (by decide +kernel) (by decide +kernel)
set_option maxRecDepth 20000 in
theorem gX5_tollAtBest_X3_typable : GoodIn wsX5_tollAtBest (wsV RX5 157 RX3 yX3_typable wsX3_typable) := goodIn_app (goodIn_of _ (by decide +kernel)) ggX5_tollAtBest_X3_typable
set_option maxRecDepth 20000 in
theorem ggX5_tollAtBest_X5_tollWith : GoodIn wsX5_tollAtBest wsX5_tollWith := goodIn_r _ [54, 1, 55, 56, 57, 58, 59, 60, 5, 61, 12, 14, 62, 31, 63, 64, 65, 66, 67, 17, 68, 69, 70, 71, 72, 73, 74, 75, 76, 77, 78, 79, 87, 88, 89, 90, 91, 92, 80, 81, 82, 83] (by decide +kernel) (by decide +kernel)
set_option maxRecDepth 20000 in
theorem gX5_tollAtBest_X5_tollWith : GoodIn wsX5_tollAtBest (wsV RX5 175 RX5 yX5_tollWith wsX5_tollWith) := goodIn_app (goodIn_of _ (by decide +kernel)) ggX5_tollAtBest_X5_tollWith
theorem dX5_tollAtBest_0 : decode cX5_tollAtBest 0 = .ok (.aload_n 0, 1) := by decide +kernel
theorem dX5_tollAtBest_1 : decode cX5_tollAtBest 1 = .ok (.aload_n 0, 1) := by decide +kernel
theorem dX5_tollAtBest_2 : decode cX5_tollAtBest 2 = .ok (.getfield 10, 3) := by decide +kernel
theorem dX5_tollAtBest_5 : decode cX5_tollAtBest 5 = .ok (.invokevirtual 157, 3) := by decide +kernel
theorem dX5_tollAtBest_8 : decode cX5_tollAtBest 8 = .ok (.invokevirtual 175, 3) := by decide +kernel
theorem dX5_tollAtBest_11 : decode cX5_tollAtBest 11 = .ok (.ireturn, 1) := by decide +kernel
set_option maxRecDepth 20000 in
theorem ggX5_digest_X5_many : GoodIn wsX5_digest wsX5_many := goodIn_ca (goodIn_r _ [8, 2, 3, 9, 10, 11, 12, 13, 14, 15, 16, 7, 17, 18, 19, 20, 21, 22, 23, 24, 25, 26, 27, 28, 29, 30, 31, 32, 33, 34, 35, 36, 37, 38, 39, 40, 41, 42, 43, 44, 45, 46, 47, 48, 49, 50, 51, 52, 53, 54, 55, 56, 57, 58, 59, 60, 61, 62, 63, 64, 65, 66, 67, 68, 69, 70, 71, 72, 73, 74, 75, 76, 77, 78, 79, 80, 81, 82, 83, 84, 85, 86, 87, 88, 89, 90, 91, 92, 93, 94, 95, 96, 97, 267, 268, 269, 270, 271, 272, 273, 274, 275, 276, 277, 278, 279, 280, 281, 282, 283, 284, 285, 286, 287, 288] (by decide +kernel) (by decide +kernel)) (goodIn_sub (fun _ h => List.mem_cons_of_mem _ (List.mem_append_left _ (List.mem_append_right _ h))) (by decide +kernel))
set_option maxRecDepth 20000 in
theorem gX5_digest_X5_many : GoodIn wsX5_digest (wsV RX5 227 RX5 yX5_many wsX5_many) := goodIn_app (goodIn_of _ (by decide +kernel)) ggX5_digest_X5_many
set_option maxRecDepth 20000 in
theorem ggX5_digest_X5_mixed : GoodIn wsX5_digest wsX5_mixed := goodIn_r _ [100, 101] (by decide +kernel) (by decide +kernel)
set_option maxRecDepth 20000 in
theorem gX5_digest_X5_mixed : GoodIn wsX5_digest (va_wsS RX5 230 yX5_mixed wsX5_mixed) := goodIn_app (goodIn_of _ (by decide +kernel)) ggX5_digest_X5_mixed
set_option maxRecDepth 20000 in
theorem ggX5_digest_X5_latest : GoodIn wsX5_digest wsX5_latest := goodIn_ca (goodIn_r _ [105, 11, 106, 15, 16, 7, 17, 18, 19, 267, 268, 269, 270, 276, 277, 278, 279, 280, 281] (by decide +kernel) (by decide +kernel)) (goodIn_sub (fun _ h => List.mem_cons_of_mem _ (List.mem_append_left _ (List.mem_append_right _ h))) (by decide +kernel))
set_option maxRecDepth 20000 in
theorem gX5_digest_X5_latest : GoodIn wsX5_digest (wsV RX5 234 RX5 yX5_latest wsX5_latest) := goodIn_app (goodIn_of _ (by decide +kernel)) ggX5_digest_X5_latest
set_option maxRecDepth 20000 in
theorem ggX5_digest_X5_mixedFunction : GoodIn wsX5_digest wsX5_mixedFunction := goodIn_ca (goodIn_ca (goodIn_r _ [110, 2, 111, 112, 113, 114, 115, 7, 116, 117, 118, 9, 119, 120, 121, 11, 122, 123, 124, 125, 126, 127, 3, 15, 16, 17, 18, 19, 128, 89, 90, 129, 34, 35, 30, 36, 37, 38, 39, 40, 41, 42, 43, 44, 45, 46, 47, 48, 49, 50, 51, 52, 53, 54, 55, 56, 57, 58, 59, 60, 61, 62, 63, 64, 65, 66, 67, 68, 130, 131, 132, 133, 134, 135, 136, 137, 138, 139, 140, 141, 32, 142, 143, 144, 145, 146, 147, 148, 149, 150, 151, 152, 153, 154, 98, 99, 100, 101, 155, 156, 157, 158, 159, 160, 161, 162, 163, 164, 165, 166, 167, 168, 169, 170, 171, 172, 80, 81, 82, 83, 84, 85, 86, 87, 88, 91, 92, 93, 94, 95, 96, 97, 173, 73, 74, 174, 175, 176, 177, 178, 179, 180, 181, 182, 183, 184, 185, 186, 187, 188, 189, 190, 191, 192, 193, 194, 195, 196, 197, 198, 199, 200, 201, 202, 203, 204, 205, 206, 207, 208, 209, 210, 211, 212, 213, 214, 215, 216, 217, 218, 219, 220, 221, 222, 223, 224, 225, 226, 227, 228, 229, 230, 231, 232, 233, 234, 235, 236, 237, 238, 239, 240, 241, 242, 243, 244, 245, 246, 247, 248, 249, 250, 251, 252, 253, 254, 267, 268, 269, 270, 271, 272, 273, 274, 275, 282, 283, 284, 285, 286, 287, 288, 276, 277, 278, 279, 280, 281, 289, 290, 291, 292, 293, 294, 295, 296, 297, 298, 299, 300, 301] (by decide +kernel) (by decide +kernel)) (goodIn_sub (fun _ h => List.mem_cons_of_mem _ (List.mem_append_right _ h)) (by decide +kernel))) (goodIn_sub (fun _ h => List.mem_cons_of_mem _ (List.mem_append_left _ (List.mem_append_right _ h))) (by decide +kernel))
set_option maxRecDepth 20000 in
theorem gX5_digest_X5_mixedFunction : GoodIn wsX5_digest (wsV RX5 236 RX5 yX5_mixedFunction wsX5_mixedFunction) := goodIn_app (goodIn_of _ (by decide +kernel)) ggX5_digest_X5_mixedFunction
set_option maxRecDepth 20000 in
theorem ggX5_digest_X5_next : GoodIn wsX5_digest wsX5_next := goodIn_r _ [258, 259, 260, 261, 7, 262, 2, 9, 3, 27, 28, 29, 30, 31, 32, 33, 34, 35, 36, 37, 38, 39, 40, 41, 42, 43, 44, 45, 46, 47, 48, 49, 50, 51, 52, 53, 54, 55, 56, 57, 58, 59, 60, 61, 62, 63, 64, 65, 66, 67, 68, 69, 70, 71, 72, 73, 74, 128, 89, 90, 169, 170, 171, 172, 80, 81, 82, 83, 11, 84, 85, 86, 87, 88, 91, 92, 93, 94, 95, 96, 97, 173, 267, 268, 269, 270, 271, 272, 273, 274, 275, 282, 283, 284, 285, 286, 287, 288, 276, 277, 278, 279, 280, 281] (by decide +kernel) (by decide +kernel)
set_option maxRecDepth 20000 in
theorem gX5_digest_X5_next : GoodIn wsX5_digest (wsV RX5 239 RX5 yX5_next wsX5_next) := goodIn_app (goodIn_of _ (by decide +kernel)) ggX5_digest_X5_next
set_option maxRecDepth 20000 in
theorem ggX5_digest_X5_tollAtBest : GoodIn wsX5_digest wsX5_tollAtBest := goodIn_r _ [266, 2, 27, 28, 29, 30, 31, 32, 33, 34, 35, 36, 37, 38, 39, 40, 41, 42, 43, 44, 45, 46, 47, 48, 49, 50, 51, 52, 53, 54, 55, 7, 56, 57, 58, 59, 60, 61, 62, 63, 64, 65, 66, 67, 68, 69, 70, 71, 72, 73, 74, 80, 81, 82, 83, 3, 11, 84, 85, 86, 87, 88, 89, 90, 91, 92, 93, 94, 95, 96, 97, 267, 268, 269, 270, 271, 272, 273, 274, 275, 282, 283, 284, 285, 286, 287, 288, 276, 277, 278, 279, 280, 281] (by decide +kernel) (by decide +kernel)
set_option maxRecDepth 20000 in
theorem gX5_digest_X5_tollAtBest : GoodIn wsX5_digest (wsV RX5 242 RX5 yX5_tollAtBest wsX5_tollAtBest) := goodIn_app (goodIn_of _ (by decide +kernel)) ggX5_digest_X5_tollAtBest
theorem dX5_digest_0 : decode cX5_digest 0 = .ok (.ldc2_w 225, 3) := by decide +kernel
theorem dX5_digest_3 : decode cX5_digest 3 = .ok (.lstore_n 1, 1) := by decide +kernel
theorem dX5_digest_4 : decode cX5_digest 4 = .ok (.iconst 0, 1) := by decide +kernel
theorem dX5_digest_5 : decode cX5_digest 5 = .ok (.istore_n 3, 1) := by decide +kernel
theorem dX5_digest_6 : decode cX5_digest 6 = .ok (.iload_n 3, 1) := by decide +kernel
theorem dX5_digest_7 : decode cX5_digest 7 = .ok (.bipush 8, 2) := by decide +kernel
theorem dX5_digest_9 : decode cX5_digest 9 = .ok (.if_icmp .gt 19, 3) := by decide +kernel
theorem dX5_digest_12 : decode cX5_digest 12 = .ok (.lload_n 1, 1) := by decide +kernel
theorem dX5_digest_13 : decode cX5_digest 13 = .ok (.aload_n 0, 1) := by decide +kernel
theorem dX5_digest_14 : decode cX5_digest 14 = .ok (.iload_n 3, 1) := by decide +kernel
theorem dX5_digest_15 : decode cX5_digest 15 = .ok (.invokevirtual 227, 3) := by decide +kernel
theorem dX5_digest_18 : decode cX5_digest 18 = .ok (.invokestatic 230, 3) := by decide +kernel
theorem dX5_digest_21 : decode cX5_digest 21 = .ok (.lstore_n 1, 1) := by decide +kernel
theorem dX5_digest_22 : decode cX5_digest 22 = .ok (.iinc 3 1, 3) := by decide +kernel
theorem dX5_digest_25 : decode cX5_digest 25 = .ok (.goto (-19), 3) := by decide +kernel
theorem dX5_digest_28 : decode cX5_digest 28 = .ok (.iconst 0, 1) := by decide +kernel
theorem dX5_digest_29 : decode cX5_digest 29 = .ok (.istore_n 3, 1) := by decide +kernel
theorem dX5_digest_30 : decode cX5_digest 30 = .ok (.iload_n 3, 1) := by decide +kernel
theorem dX5_digest_31 : decode cX5_digest 31 = .ok (.bipush 7, 2) := by decide +kernel
theorem dX5_digest_33 : decode cX5_digest 33 = .ok (.if_icmp .gt 19, 3) := by decide +kernel
theorem dX5_digest_36 : decode cX5_digest 36 = .ok (.lload_n 1, 1) := by decide +kernel
theorem dX5_digest_37 : decode cX5_digest 37 = .ok (.aload_n 0, 1) := by decide +kernel
theorem dX5_digest_38 : decode cX5_digest 38 = .ok (.iload_n 3, 1) := by decide +kernel
theorem dX5_digest_39 : decode cX5_digest 39 = .ok (.invokevirtual 234, 3) := by decide +kernel
theorem dX5_digest_42 : decode cX5_digest 42 = .ok (.invokestatic 230, 3) := by decide +kernel
theorem dX5_digest_45 : decode cX5_digest 45 = .ok (.lstore_n 1, 1) := by decide +kernel
theorem dX5_digest_46 : decode cX5_digest 46 = .ok (.iinc 3 1, 3) := by decide +kernel
theorem dX5_digest_49 : decode cX5_digest 49 = .ok (.goto (-19), 3) := by decide +kernel
theorem dX5_digest_52 : decode cX5_digest 52 = .ok (.iconst 0, 1) := by decide +kernel
theorem dX5_digest_53 : decode cX5_digest 53 = .ok (.istore_n 3, 1) := by decide +kernel
theorem dX5_digest_54 : decode cX5_digest 54 = .ok (.iload_n 3, 1) := by decide +kernel
theorem dX5_digest_55 : decode cX5_digest 55 = .ok (.aload_n 0, 1) := by decide +kernel
theorem dX5_digest_56 : decode cX5_digest 56 = .ok (.getfield 10, 3) := by decide +kernel
theorem dX5_digest_59 : decode cX5_digest 59 = .ok (.getfield 36, 3) := by decide +kernel
theorem dX5_digest_62 : decode cX5_digest 62 = .ok (.if_icmp .ge 16, 3) := by decide +kernel
theorem dX5_digest_65 : decode cX5_digest 65 = .ok (.aload_n 0, 1) := by decide +kernel
theorem dX5_digest_66 : decode cX5_digest 66 = .ok (.lload_n 1, 1) := by decide +kernel
theorem dX5_digest_67 : decode cX5_digest 67 = .ok (.iload_n 3, 1) := by decide +kernel
theorem dX5_digest_68 : decode cX5_digest 68 = .ok (.invokevirtual 236, 3) := by decide +kernel
theorem dX5_digest_71 : decode cX5_digest 71 = .ok (.lstore_n 1, 1) := by decide +kernel
theorem dX5_digest_72 : decode cX5_digest 72 = .ok (.iinc 3 1, 3) := by decide +kernel
theorem dX5_digest_75 : decode cX5_digest 75 = .ok (.goto (-21), 3) := by decide +kernel
theorem dX5_digest_78 : decode cX5_digest 78 = .ok (.lload_n 1, 1) := by decide +kernel
theorem dX5_digest_79 : decode cX5_digest 79 = .ok (.aload_n 0, 1) := by decide +kernel
theorem dX5_digest_80 : decode cX5_digest 80 = .ok (.invokevirtual 239, 3) := by decide +kernel
theorem dX5_digest_83 : decode cX5_digest 83 = .ok (.invokestatic 230, 3) := by decide +kernel
theorem dX5_digest_86 : decode cX5_digest 86 = .ok (.lstore_n 1, 1) := by decide +kernel
theorem dX5_digest_87 : decode cX5_digest 87 = .ok (.lload_n 1, 1) := by decide +kernel
theorem dX5_digest_88 : decode cX5_digest 88 = .ok (.aload_n 0, 1) := by decide +kernel
theorem dX5_digest_89 : decode cX5_digest 89 = .ok (.invokevirtual 242, 3) := by decide +kernel
theorem dX5_digest_92 : decode cX5_digest 92 = .ok (.invokestatic 230, 3) := by decide +kernel
theorem dX5_digest_95 : decode cX5_digest 95 = .ok (.lreturn, 1) := by decide +kernel
set_option maxRecDepth 20000 in
theorem ggX5_mixedFunction_X5_ofFunction : GoodIn wsX5_mixedFunction wsX5_ofFunction := goodIn_ca (goodIn_ca (goodIn_r _ [8, 1, 2, 3, 9, 10, 11, 12, 13, 14, 15, 16, 17, 18, 7, 19, 20, 21, 22, 23, 24, 25, 26, 27, 28, 29, 30, 31, 32, 33, 34, 35, 36, 37, 38, 39, 40, 41, 42, 43, 44, 45, 46, 47, 48, 49, 50, 51, 52, 53, 54, 55, 56, 57, 58, 59, 60, 61, 62, 63, 64, 65, 66, 67, 68, 69, 70, 71, 72, 73, 74, 75, 76, 77, 78, 79, 80, 81, 82, 83, 84, 85, 86, 87, 88, 89, 90, 91, 92, 93, 216, 217, 218, 219, 220, 221, 222, 223, 224, 225, 226, 227, 228, 229, 230, 231, 232, 233, 234, 235, 236, 237] (by decide +kernel) (by decide +kernel)) (goodIn_sub (fun _ h => List.mem_cons_of_mem _ (List.mem_append_left _ (List.mem_append_right _ h))) (by decide +kernel))) (goodIn_sub (fun _ h => List.mem_cons_of_mem _ (List.mem_append_right _ h)) (by decide +kernel))
set_option maxRecDepth 20000 in
theorem gX5_mixedFunction_X5_ofFunction : GoodIn wsX5_mixedFunction (wsV RX5 245 RX5 yX5_ofFunction wsX5_ofFunction) := goodIn_app (goodIn_of _ (by decide +kernel)) ggX5_mixedFunction_X5_ofFunction
set_option maxRecDepth 20000 in
theorem ggX5_mixedFunction_X5_mixed : GoodIn wsX5_mixedFunction wsX5_mixed := goodIn_r _ [96, 97] (by decide +kernel) (by decide +kernel)
set_option maxRecDepth 20000 in
theorem gX5_mixedFunction_X5_mixed : GoodIn wsX5_mixedFunction (va_wsS RX5 230 yX5_mixed wsX5_mixed) := goodIn_app (goodIn_of _ (by decide +kernel)) ggX5_mixedFunction_X5_mixed
set_option maxRecDepth 20000 in
theorem ggX5_mixedFunction_X5_stepAt : GoodIn wsX5_mixedFunction wsX5_stepAt := goodIn_ca (goodIn_r _ [101, 20, 21, 1, 2, 3, 102, 16, 17, 18, 7, 19, 22, 216, 217, 218, 219, 220, 221, 222, 223, 224, 225, 226, 227, 228] (by decide +kernel) (by decide +kernel)) (goodIn_sub (fun _ h => List.mem_cons_of_mem _ (List.mem_append_left _ (List.mem_append_right _ h))) (by decide +kernel))
set_option maxRecDepth 20000 in
theorem gX5_mixedFunction_X5_stepAt : GoodIn wsX5_mixedFunction (wsV RX5 248 RX5 yX5_stepAt wsX5_stepAt) := goodIn_app (goodIn_of _ (by decide +kernel)) ggX5_mixedFunction_X5_stepAt
set_option maxRecDepth 20000 in
theorem ggX5_mixedFunction_X5_blamed : GoodIn wsX5_mixedFunction wsX5_blamed := goodIn_ca (goodIn_r _ [106, 15, 107, 16, 17, 18, 7, 19, 20, 21, 1, 22, 216, 217, 218, 219, 232, 233, 234, 235, 236, 237, 220, 221, 222, 223, 224] (by decide +kernel) (by decide +kernel)) (goodIn_sub (fun _ h => List.mem_cons_of_mem _ (List.mem_append_left _ (List.mem_append_right _ h))) (by decide +kernel))
set_option maxRecDepth 20000 in
theorem gX5_mixedFunction_X5_blamed : GoodIn wsX5_mixedFunction (wsV RX5 251 RX5 yX5_blamed wsX5_blamed) := goodIn_app (goodIn_of _ (by decide +kernel)) ggX5_mixedFunction_X5_blamed
set_option maxRecDepth 20000 in
theorem ggX5_mixedFunction_X5_gain : GoodIn wsX5_mixedFunction wsX5_gain := goodIn_ca (goodIn_r _ [111, 16, 17, 18, 7, 19, 20, 21, 1, 22, 112, 113, 114, 115, 11, 116, 117, 118, 119, 15, 120, 121, 122, 123, 34, 124, 36, 38, 29, 30, 125, 126, 127, 128, 41, 129, 130, 131, 132, 133, 134, 216, 217, 218, 219, 220, 221, 222, 223, 224, 232, 233, 234, 235, 236, 237, 225, 226, 227, 228] (by decide +kernel) (by decide +kernel)) (goodIn_sub (fun _ h => List.mem_cons_of_mem _ (List.mem_append_left _ (List.mem_append_right _ h))) (by decide +kernel))
set_option maxRecDepth 20000 in
theorem gX5_mixedFunction_X5_gain : GoodIn wsX5_mixedFunction (wsV RX5 254 RX5 yX5_gain wsX5_gain) := goodIn_app (goodIn_of _ (by decide +kernel)) ggX5_mixedFunction_X5_gain
set_option maxRecDepth 20000 in
theorem ggX5_mixedFunction_X5_wouldBlame : GoodIn wsX5_mixedFunction wsX5_wouldBlame := goodIn_ca (goodIn_ca (goodIn_r _ [138, 139, 140, 141, 16, 17, 18, 7, 19, 20, 21, 1, 22, 142, 143, 144, 26, 27, 145, 146, 147, 148, 149, 150, 151, 152, 153, 154, 155, 156, 157, 158, 159, 160, 161, 162, 163, 164, 165, 166, 167, 168, 169, 170, 171, 172, 173, 174, 175, 176, 177, 178, 179, 180, 181, 182, 183, 184, 185, 130, 131, 186, 122, 123, 34, 124, 36, 38, 29, 30, 187, 188, 189, 190, 191, 192, 193, 194, 126, 127, 128, 41, 195, 54, 55, 56, 57, 196, 197, 198, 199, 200, 201, 202, 203, 204, 205, 206, 207, 208, 209, 66, 67, 210, 211, 212, 213, 214, 215, 216, 217, 218, 219, 238, 239, 240, 241, 242, 243, 244, 245, 246, 247, 248, 249, 250, 220, 221, 222, 223, 224, 225, 226, 227, 228] (by decide +kernel) (by decide +kernel)) (goodIn_sub (fun _ h => List.mem_cons_of_mem _ (List.mem_append_left _ (List.mem_append_right _ h))) (by decide +kernel))) (goodIn_sub (fun _ h => List.mem_cons_of_mem _ (List.mem_append_right _ h)) (by decide +kernel))
set_option maxRecDepth 20000 in
theorem gX5_mixedFunction_X5_wouldBlame : GoodIn wsX5_mixedFunction (wsV RX5 257 RX5 yX5_wouldBlame wsX5_wouldBlame) := goodIn_app (goodIn_of _ (by decide +kernel)) ggX5_mixedFunction_X5_wouldBlame
theorem dX5_mixedFunction_0 : decode cX5_mixedFunction 0 = .ok (.lload_n 1, 1) := by decide +kernel
theorem dX5_mixedFunction_1 : decode cX5_mixedFunction 1 = .ok (.lstore 4, 2) := by decide +kernel
theorem dX5_mixedFunction_3 : decode cX5_mixedFunction 3 = .ok (.iconst 0, 1) := by decide +kernel
theorem dX5_mixedFunction_4 : decode cX5_mixedFunction 4 = .ok (.istore 6, 2) := by decide +kernel
theorem dX5_mixedFunction_6 : decode cX5_mixedFunction 6 = .ok (.iload 6, 2) := by decide +kernel
theorem dX5_mixedFunction_8 : decode cX5_mixedFunction 8 = .ok (.bipush 10, 2) := by decide +kernel
theorem dX5_mixedFunction_10 : decode cX5_mixedFunction 10 = .ok (.if_icmp .gt 23, 3) := by decide +kernel
theorem dX5_mixedFunction_13 : decode cX5_mixedFunction 13 = .ok (.lload 4, 2) := by decide +kernel
theorem dX5_mixedFunction_15 : decode cX5_mixedFunction 15 = .ok (.aload_n 0, 1) := by decide +kernel
theorem dX5_mixedFunction_16 : decode cX5_mixedFunction 16 = .ok (.iload_n 3, 1) := by decide +kernel
theorem dX5_mixedFunction_17 : decode cX5_mixedFunction 17 = .ok (.iload 6, 2) := by decide +kernel
theorem dX5_mixedFunction_19 : decode cX5_mixedFunction 19 = .ok (.invokevirtual 245, 3) := by decide +kernel
theorem dX5_mixedFunction_22 : decode cX5_mixedFunction 22 = .ok (.invokestatic 230, 3) := by decide +kernel
theorem dX5_mixedFunction_25 : decode cX5_mixedFunction 25 = .ok (.lstore 4, 2) := by decide +kernel
theorem dX5_mixedFunction_27 : decode cX5_mixedFunction 27 = .ok (.iinc 6 1, 3) := by decide +kernel
theorem dX5_mixedFunction_30 : decode cX5_mixedFunction 30 = .ok (.goto (-24), 3) := by decide +kernel
theorem dX5_mixedFunction_33 : decode cX5_mixedFunction 33 = .ok (.aload_n 0, 1) := by decide +kernel
theorem dX5_mixedFunction_34 : decode cX5_mixedFunction 34 = .ok (.getfield 10, 3) := by decide +kernel
theorem dX5_mixedFunction_37 : decode cX5_mixedFunction 37 = .ok (.getfield 59, 3) := by decide +kernel
theorem dX5_mixedFunction_40 : decode cX5_mixedFunction 40 = .ok (.iload_n 3, 1) := by decide +kernel
theorem dX5_mixedFunction_41 : decode cX5_mixedFunction 41 = .ok (.aaload, 1) := by decide +kernel
theorem dX5_mixedFunction_42 : decode cX5_mixedFunction 42 = .ok (.getfield 63, 3) := by decide +kernel
theorem dX5_mixedFunction_45 : decode cX5_mixedFunction 45 = .ok (.istore 6, 2) := by decide +kernel
theorem dX5_mixedFunction_47 : decode cX5_mixedFunction 47 = .ok (.iconst 0, 1) := by decide +kernel
theorem dX5_mixedFunction_48 : decode cX5_mixedFunction 48 = .ok (.istore 7, 2) := by decide +kernel
theorem dX5_mixedFunction_50 : decode cX5_mixedFunction 50 = .ok (.iload 7, 2) := by decide +kernel
theorem dX5_mixedFunction_52 : decode cX5_mixedFunction 52 = .ok (.iload 6, 2) := by decide +kernel
theorem dX5_mixedFunction_54 : decode cX5_mixedFunction 54 = .ok (.if_icmp .ge 23, 3) := by decide +kernel
theorem dX5_mixedFunction_57 : decode cX5_mixedFunction 57 = .ok (.lload 4, 2) := by decide +kernel
theorem dX5_mixedFunction_59 : decode cX5_mixedFunction 59 = .ok (.aload_n 0, 1) := by decide +kernel
theorem dX5_mixedFunction_60 : decode cX5_mixedFunction 60 = .ok (.iload_n 3, 1) := by decide +kernel
theorem dX5_mixedFunction_61 : decode cX5_mixedFunction 61 = .ok (.iload 7, 2) := by decide +kernel
theorem dX5_mixedFunction_63 : decode cX5_mixedFunction 63 = .ok (.invokevirtual 248, 3) := by decide +kernel
theorem dX5_mixedFunction_66 : decode cX5_mixedFunction 66 = .ok (.invokestatic 230, 3) := by decide +kernel
theorem dX5_mixedFunction_69 : decode cX5_mixedFunction 69 = .ok (.lstore 4, 2) := by decide +kernel
theorem dX5_mixedFunction_71 : decode cX5_mixedFunction 71 = .ok (.iinc 7 1, 3) := by decide +kernel
theorem dX5_mixedFunction_74 : decode cX5_mixedFunction 74 = .ok (.goto (-24), 3) := by decide +kernel
theorem dX5_mixedFunction_77 : decode cX5_mixedFunction 77 = .ok (.lload 4, 2) := by decide +kernel
theorem dX5_mixedFunction_79 : decode cX5_mixedFunction 79 = .ok (.aload_n 0, 1) := by decide +kernel
theorem dX5_mixedFunction_80 : decode cX5_mixedFunction 80 = .ok (.iload_n 3, 1) := by decide +kernel
theorem dX5_mixedFunction_81 : decode cX5_mixedFunction 81 = .ok (.invokevirtual 251, 3) := by decide +kernel
theorem dX5_mixedFunction_84 : decode cX5_mixedFunction 84 = .ok (.invokestatic 230, 3) := by decide +kernel
theorem dX5_mixedFunction_87 : decode cX5_mixedFunction 87 = .ok (.lstore 4, 2) := by decide +kernel
theorem dX5_mixedFunction_89 : decode cX5_mixedFunction 89 = .ok (.lload 4, 2) := by decide +kernel
theorem dX5_mixedFunction_91 : decode cX5_mixedFunction 91 = .ok (.aload_n 0, 1) := by decide +kernel
theorem dX5_mixedFunction_92 : decode cX5_mixedFunction 92 = .ok (.iload_n 3, 1) := by decide +kernel
theorem dX5_mixedFunction_93 : decode cX5_mixedFunction 93 = .ok (.invokevirtual 254, 3) := by decide +kernel
theorem dX5_mixedFunction_96 : decode cX5_mixedFunction 96 = .ok (.invokestatic 230, 3) := by decide +kernel
theorem dX5_mixedFunction_99 : decode cX5_mixedFunction 99 = .ok (.lstore 4, 2) := by decide +kernel
theorem dX5_mixedFunction_101 : decode cX5_mixedFunction 101 = .ok (.lload 4, 2) := by decide +kernel
theorem dX5_mixedFunction_103 : decode cX5_mixedFunction 103 = .ok (.aload_n 0, 1) := by decide +kernel
theorem dX5_mixedFunction_104 : decode cX5_mixedFunction 104 = .ok (.iload_n 3, 1) := by decide +kernel
theorem dX5_mixedFunction_105 : decode cX5_mixedFunction 105 = .ok (.iconst 0, 1) := by decide +kernel
theorem dX5_mixedFunction_106 : decode cX5_mixedFunction 106 = .ok (.iconst 3, 1) := by decide +kernel
theorem dX5_mixedFunction_107 : decode cX5_mixedFunction 107 = .ok (.invokevirtual 257, 3) := by decide +kernel
theorem dX5_mixedFunction_110 : decode cX5_mixedFunction 110 = .ok (.invokestatic 230, 3) := by decide +kernel
theorem dX5_mixedFunction_113 : decode cX5_mixedFunction 113 = .ok (.lstore 4, 2) := by decide +kernel
theorem dX5_mixedFunction_115 : decode cX5_mixedFunction 115 = .ok (.lload 4, 2) := by decide +kernel
theorem dX5_mixedFunction_117 : decode cX5_mixedFunction 117 = .ok (.aload_n 0, 1) := by decide +kernel
theorem dX5_mixedFunction_118 : decode cX5_mixedFunction 118 = .ok (.iload_n 3, 1) := by decide +kernel
theorem dX5_mixedFunction_119 : decode cX5_mixedFunction 119 = .ok (.iconst 1, 1) := by decide +kernel
theorem dX5_mixedFunction_120 : decode cX5_mixedFunction 120 = .ok (.iconst 3, 1) := by decide +kernel
theorem dX5_mixedFunction_121 : decode cX5_mixedFunction 121 = .ok (.invokevirtual 257, 3) := by decide +kernel
theorem dX5_mixedFunction_124 : decode cX5_mixedFunction 124 = .ok (.invokestatic 230, 3) := by decide +kernel
theorem dX5_mixedFunction_127 : decode cX5_mixedFunction 127 = .ok (.lstore 4, 2) := by decide +kernel
theorem dX5_mixedFunction_129 : decode cX5_mixedFunction 129 = .ok (.lload 4, 2) := by decide +kernel
theorem dX5_mixedFunction_131 : decode cX5_mixedFunction 131 = .ok (.aload_n 0, 1) := by decide +kernel
theorem dX5_mixedFunction_132 : decode cX5_mixedFunction 132 = .ok (.iload_n 3, 1) := by decide +kernel
theorem dX5_mixedFunction_133 : decode cX5_mixedFunction 133 = .ok (.iconst 2, 1) := by decide +kernel
theorem dX5_mixedFunction_134 : decode cX5_mixedFunction 134 = .ok (.iconst 1, 1) := by decide +kernel
theorem dX5_mixedFunction_135 : decode cX5_mixedFunction 135 = .ok (.invokevirtual 257, 3) := by decide +kernel
theorem dX5_mixedFunction_138 : decode cX5_mixedFunction 138 = .ok (.invokestatic 230, 3) := by decide +kernel
theorem dX5_mixedFunction_141 : decode cX5_mixedFunction 141 = .ok (.lreturn, 1) := by decide +kernel
theorem dX5_mixed_0 : decode cX5_mixed 0 = .ok (.lload_n 0, 1) := by decide +kernel
theorem dX5_mixed_1 : decode cX5_mixed 1 = .ok (.ldc2_w 260, 3) := by decide +kernel
theorem dX5_mixed_4 : decode cX5_mixed 4 = .ok (.lmul, 1) := by decide +kernel
theorem dX5_mixed_5 : decode cX5_mixed 5 = .ok (.iload_n 2, 1) := by decide +kernel
theorem dX5_mixed_6 : decode cX5_mixed 6 = .ok (.i2l, 1) := by decide +kernel
theorem dX5_mixed_7 : decode cX5_mixed 7 = .ok (.ladd, 1) := by decide +kernel
theorem dX5_mixed_8 : decode cX5_mixed 8 = .ok (.lreturn, 1) := by decide +kernel
set_option maxRecDepth 20000 in
theorem ggX5_tollWith_X3_guardsCall : GoodIn wsX5_tollWith wsX3_guardsCall := goodIn_r _ [9, 10, 11, 12, 13, 14, 27, 28, 29, 30, 31, 38, 39, 40, 41] (by decide +kernel) (by decide +kernel)
set_option maxRecDepth 20000 in
theorem gX5_tollWith_X3_guardsCall : GoodIn wsX5_tollWith (wsV RX5 262 RX3 yX3_guardsCall wsX3_guardsCall) := goodIn_app (goodIn_of _ (by decide +kernel)) ggX5_tollWith_X3_guardsCall
set_option maxRecDepth 20000 in
theorem ggX5_tollWith_X3_guardsGive : GoodIn wsX5_tollWith wsX3_guardsGive := goodIn_r _ [18, 10, 19, 12, 13, 14, 27, 28, 29, 30, 31, 38, 39, 40, 41] (by decide +kernel) (by decide +kernel)
set_option maxRecDepth 20000 in
theorem gX5_tollWith_X3_guardsGive : GoodIn wsX5_tollWith (wsV RX5 266 RX3 yX3_guardsGive wsX3_guardsGive) := goodIn_app (goodIn_of _ (by decide +kernel)) ggX5_tollWith_X3_guardsGive
set_option maxRecDepth 20000 in
theorem ggX5_tollWith_X5_rowOf : GoodIn wsX5_tollWith wsX5_rowOf := goodIn_r _ [22] (by decide +kernel) (by decide +kernel)
set_option maxRecDepth 20000 in
theorem gX5_tollWith_X5_rowOf : GoodIn wsX5_tollWith (va_wsS RX5 202 yX5_rowOf wsX5_rowOf) := goodIn_app (goodIn_of _ (by decide +kernel)) ggX5_tollWith_X5_rowOf
theorem dX5_tollWith_0 : decode cX5_tollWith 0 = .ok (.iconst 0, 1) := by decide +kernel
theorem dX5_tollWith_1 : decode cX5_tollWith 1 = .ok (.istore_n 2, 1) := by decide +kernel
theorem dX5_tollWith_2 : decode cX5_tollWith 2 = .ok (.iconst (-1), 1) := by decide +kernel
theorem dX5_tollWith_3 : decode cX5_tollWith 3 = .ok (.istore_n 3, 1) := by decide +kernel
theorem dX5_tollWith_4 : decode cX5_tollWith 4 = .ok (.iload_n 3, 1) := by decide +kernel
theorem dX5_tollWith_5 : decode cX5_tollWith 5 = .ok (.aload_n 0, 1) := by decide +kernel
theorem dX5_tollWith_6 : decode cX5_tollWith 6 = .ok (.getfield 10, 3) := by decide +kernel
theorem dX5_tollWith_9 : decode cX5_tollWith 9 = .ok (.getfield 36, 3) := by decide +kernel
theorem dX5_tollWith_12 : decode cX5_tollWith 12 = .ok (.if_icmp .ge 78, 3) := by decide +kernel
theorem dX5_tollWith_15 : decode cX5_tollWith 15 = .ok (.iconst 0, 1) := by decide +kernel
theorem dX5_tollWith_16 : decode cX5_tollWith 16 = .ok (.istore 4, 2) := by decide +kernel
theorem dX5_tollWith_18 : decode cX5_tollWith 18 = .ok (.iload 4, 2) := by decide +kernel
theorem dX5_tollWith_20 : decode cX5_tollWith 20 = .ok (.aload_n 0, 1) := by decide +kernel
theorem dX5_tollWith_21 : decode cX5_tollWith 21 = .ok (.getfield 10, 3) := by decide +kernel
theorem dX5_tollWith_24 : decode cX5_tollWith 24 = .ok (.getfield 36, 3) := by decide +kernel
theorem dX5_tollWith_27 : decode cX5_tollWith 27 = .ok (.if_icmp .ge 57, 3) := by decide +kernel
theorem dX5_tollWith_30 : decode cX5_tollWith 30 = .ok (.aload_n 0, 1) := by decide +kernel
theorem dX5_tollWith_31 : decode cX5_tollWith 31 = .ok (.getfield 10, 3) := by decide +kernel
theorem dX5_tollWith_34 : decode cX5_tollWith 34 = .ok (.iload_n 3, 1) := by decide +kernel
theorem dX5_tollWith_35 : decode cX5_tollWith 35 = .ok (.iload 4, 2) := by decide +kernel
theorem dX5_tollWith_37 : decode cX5_tollWith 37 = .ok (.iload_n 1, 1) := by decide +kernel
theorem dX5_tollWith_38 : decode cX5_tollWith 38 = .ok (.invokevirtual 262, 3) := by decide +kernel
theorem dX5_tollWith_41 : decode cX5_tollWith 41 = .ok (.ifCond .ne 17, 3) := by decide +kernel
theorem dX5_tollWith_44 : decode cX5_tollWith 44 = .ok (.aload_n 0, 1) := by decide +kernel
theorem dX5_tollWith_45 : decode cX5_tollWith 45 = .ok (.getfield 10, 3) := by decide +kernel
theorem dX5_tollWith_48 : decode cX5_tollWith 48 = .ok (.iload_n 3, 1) := by decide +kernel
theorem dX5_tollWith_49 : decode cX5_tollWith 49 = .ok (.iload 4, 2) := by decide +kernel
theorem dX5_tollWith_51 : decode cX5_tollWith 51 = .ok (.iload_n 1, 1) := by decide +kernel
theorem dX5_tollWith_52 : decode cX5_tollWith 52 = .ok (.invokevirtual 266, 3) := by decide +kernel
theorem dX5_tollWith_55 : decode cX5_tollWith 55 = .ok (.ifCond .eq 23, 3) := by decide +kernel
theorem dX5_tollWith_58 : decode cX5_tollWith 58 = .ok (.iload_n 2, 1) := by decide +kernel
theorem dX5_tollWith_59 : decode cX5_tollWith 59 = .ok (.iconst 2, 1) := by decide +kernel
theorem dX5_tollWith_60 : decode cX5_tollWith 60 = .ok (.aload_n 0, 1) := by decide +kernel
theorem dX5_tollWith_61 : decode cX5_tollWith 61 = .ok (.getfield 28, 3) := by decide +kernel
theorem dX5_tollWith_64 : decode cX5_tollWith 64 = .ok (.getfield 198, 3) := by decide +kernel
theorem dX5_tollWith_67 : decode cX5_tollWith 67 = .ok (.iload_n 3, 1) := by decide +kernel
theorem dX5_tollWith_68 : decode cX5_tollWith 68 = .ok (.invokestatic 202, 3) := by decide +kernel
theorem dX5_tollWith_71 : decode cX5_tollWith 71 = .ok (.aaload, 1) := by decide +kernel
theorem dX5_tollWith_72 : decode cX5_tollWith 72 = .ok (.iload 4, 2) := by decide +kernel
theorem dX5_tollWith_74 : decode cX5_tollWith 74 = .ok (.iaload, 1) := by decide +kernel
theorem dX5_tollWith_75 : decode cX5_tollWith 75 = .ok (.imul, 1) := by decide +kernel
theorem dX5_tollWith_76 : decode cX5_tollWith 76 = .ok (.iadd, 1) := by decide +kernel
theorem dX5_tollWith_77 : decode cX5_tollWith 77 = .ok (.istore_n 2, 1) := by decide +kernel
theorem dX5_tollWith_78 : decode cX5_tollWith 78 = .ok (.iinc 4 1, 3) := by decide +kernel
theorem dX5_tollWith_81 : decode cX5_tollWith 81 = .ok (.goto (-63), 3) := by decide +kernel
theorem dX5_tollWith_84 : decode cX5_tollWith 84 = .ok (.iinc 3 1, 3) := by decide +kernel
theorem dX5_tollWith_87 : decode cX5_tollWith 87 = .ok (.goto (-83), 3) := by decide +kernel
theorem dX5_tollWith_90 : decode cX5_tollWith 90 = .ok (.iload_n 2, 1) := by decide +kernel
theorem dX5_tollWith_91 : decode cX5_tollWith 91 = .ok (.ireturn, 1) := by decide +kernel
set_option maxRecDepth 20000 in
theorem ggX5_gainOf_X5_tollWith : GoodIn wsX5_gainOf wsX5_tollWith := goodIn_r _ [7, 1, 8, 9, 10, 11, 12, 13, 14, 15, 16, 17, 18, 6, 19, 20, 21, 22, 23, 24, 25, 26, 27, 31, 32, 33, 34, 35, 36, 37, 38, 39, 40, 41, 42, 43, 44, 45, 46, 47, 48, 49] (by decide +kernel) (by decide +kernel)
set_option maxRecDepth 20000 in
theorem gX5_gainOf_X5_tollWith : GoodIn wsX5_gainOf (wsV RX5 175 RX5 yX5_tollWith wsX5_tollWith) := goodIn_app (goodIn_of _ (by decide +kernel)) ggX5_gainOf_X5_tollWith
set_option maxRecDepth 20000 in
theorem ggX5_gainOf_X5_with : GoodIn wsX5_gainOf wsX5_with := goodIn_r _ [30] (by decide +kernel) (by decide +kernel)
set_option maxRecDepth 20000 in
theorem gX5_gainOf_X5_with : GoodIn wsX5_gainOf (va_wsS RX5 121 yX5_with wsX5_with) := goodIn_app (goodIn_of _ (by decide +kernel)) ggX5_gainOf_X5_with
theorem dX5_gainOf_0 : decode cX5_gainOf 0 = .ok (.aload_n 0, 1) := by decide +kernel
theorem dX5_gainOf_1 : decode cX5_gainOf 1 = .ok (.aload_n 0, 1) := by decide +kernel
theorem dX5_gainOf_2 : decode cX5_gainOf 2 = .ok (.getfield 10, 3) := by decide +kernel
theorem dX5_gainOf_5 : decode cX5_gainOf 5 = .ok (.getfield 114, 3) := by decide +kernel
theorem dX5_gainOf_8 : decode cX5_gainOf 8 = .ok (.invokevirtual 175, 3) := by decide +kernel
theorem dX5_gainOf_11 : decode cX5_gainOf 11 = .ok (.aload_n 0, 1) := by decide +kernel
theorem dX5_gainOf_12 : decode cX5_gainOf 12 = .ok (.aload_n 0, 1) := by decide +kernel
theorem dX5_gainOf_13 : decode cX5_gainOf 13 = .ok (.getfield 10, 3) := by decide +kernel
theorem dX5_gainOf_16 : decode cX5_gainOf 16 = .ok (.getfield 114, 3) := by decide +kernel
theorem dX5_gainOf_19 : decode cX5_gainOf 19 = .ok (.iload_n 1, 1) := by decide +kernel
theorem dX5_gainOf_20 : decode cX5_gainOf 20 = .ok (.invokestatic 121, 3) := by decide +kernel
theorem dX5_gainOf_23 : decode cX5_gainOf 23 = .ok (.invokevirtual 175, 3) := by decide +kernel
theorem dX5_gainOf_26 : decode cX5_gainOf 26 = .ok (.isub, 1) := by decide +kernel
theorem dX5_gainOf_27 : decode cX5_gainOf 27 = .ok (.ireturn, 1) := by decide +kernel
set_option maxRecDepth 20000 in
theorem ggX5_nextToType_X3_typable : GoodIn wsX5_nextToType wsX3_typable := goodIn_r _ [8, 9, 10, 11, 12, 7, 13, 14, 15, 16, 17, 18, 19, 20, 21, 22, 23, 24, 25, 26, 27, 28, 29, 30, 31, 32, 33, 34, 35, 36, 37, 38, 39, 40, 41, 42, 43, 44, 45, 46, 47, 48, 49, 50, 51, 52, 82, 83, 84, 85, 86, 87, 88, 89, 90, 91, 92, 93] (by decide +kernel) (by decide +kernel)
set_option maxRecDepth 20000 in
theorem gX5_nextToType_X3_typable : GoodIn wsX5_nextToType (wsV RX5 157 RX3 yX3_typable wsX3_typable) := goodIn_app (goodIn_of _ (by decide +kernel)) ggX5_nextToType_X3_typable
set_option maxRecDepth 20000 in
theorem ggX5_nextToType_X5_has : GoodIn wsX5_nextToType wsX5_has := goodIn_r _ [55] (by decide +kernel) (by decide +kernel)
set_option maxRecDepth 20000 in
theorem gX5_nextToType_X5_has : GoodIn wsX5_nextToType (va_wsS RX5 117 yX5_has wsX5_has) := goodIn_app (goodIn_of _ (by decide +kernel)) ggX5_nextToType_X5_has
set_option maxRecDepth 20000 in
theorem ggX5_nextToType_X5_gainOf : GoodIn wsX5_nextToType wsX5_gainOf := goodIn_r _ [59, 1, 2, 60, 61, 62, 33, 63, 3, 64, 65, 66, 67, 68, 7, 69, 14, 16, 54, 55, 70, 71, 72, 73, 19, 74, 75, 76, 77, 51, 52, 78, 79, 80, 81, 82, 83, 84, 85, 86, 94, 95, 96, 97, 98, 99, 87, 88, 89, 90] (by decide +kernel) (by decide +kernel)
set_option maxRecDepth 20000 in
theorem gX5_nextToType_X5_gainOf : GoodIn wsX5_nextToType (wsV RX5 208 RX5 yX5_gainOf wsX5_gainOf) := goodIn_app (goodIn_of _ (by decide +kernel)) ggX5_nextToType_X5_gainOf
theorem dX5_nextToType_0 : decode cX5_nextToType 0 = .ok (.aload_n 0, 1) := by decide +kernel
theorem dX5_nextToType_1 : decode cX5_nextToType 1 = .ok (.getfield 10, 3) := by decide +kernel
theorem dX5_nextToType_4 : decode cX5_nextToType 4 = .ok (.invokevirtual 157, 3) := by decide +kernel
theorem dX5_nextToType_7 : decode cX5_nextToType 7 = .ok (.aload_n 0, 1) := by decide +kernel
theorem dX5_nextToType_8 : decode cX5_nextToType 8 = .ok (.getfield 10, 3) := by decide +kernel
theorem dX5_nextToType_11 : decode cX5_nextToType 11 = .ok (.getfield 114, 3) := by decide +kernel
theorem dX5_nextToType_14 : decode cX5_nextToType 14 = .ok (.iconst (-1), 1) := by decide +kernel
theorem dX5_nextToType_15 : decode cX5_nextToType 15 = .ok (.ixor, 1) := by decide +kernel
theorem dX5_nextToType_16 : decode cX5_nextToType 16 = .ok (.iand, 1) := by decide +kernel
theorem dX5_nextToType_17 : decode cX5_nextToType 17 = .ok (.istore_n 1, 1) := by decide +kernel
theorem dX5_nextToType_18 : decode cX5_nextToType 18 = .ok (.iconst (-1), 1) := by decide +kernel
theorem dX5_nextToType_19 : decode cX5_nextToType 19 = .ok (.istore_n 2, 1) := by decide +kernel
theorem dX5_nextToType_20 : decode cX5_nextToType 20 = .ok (.iconst 0, 1) := by decide +kernel
theorem dX5_nextToType_21 : decode cX5_nextToType 21 = .ok (.istore_n 3, 1) := by decide +kernel
theorem dX5_nextToType_22 : decode cX5_nextToType 22 = .ok (.iconst 0, 1) := by decide +kernel
theorem dX5_nextToType_23 : decode cX5_nextToType 23 = .ok (.istore 4, 2) := by decide +kernel
theorem dX5_nextToType_25 : decode cX5_nextToType 25 = .ok (.iload 4, 2) := by decide +kernel
theorem dX5_nextToType_27 : decode cX5_nextToType 27 = .ok (.aload_n 0, 1) := by decide +kernel
theorem dX5_nextToType_28 : decode cX5_nextToType 28 = .ok (.getfield 10, 3) := by decide +kernel
theorem dX5_nextToType_31 : decode cX5_nextToType 31 = .ok (.getfield 36, 3) := by decide +kernel
theorem dX5_nextToType_34 : decode cX5_nextToType 34 = .ok (.if_icmp .ge 43, 3) := by decide +kernel
theorem dX5_nextToType_37 : decode cX5_nextToType 37 = .ok (.iload_n 1, 1) := by decide +kernel
theorem dX5_nextToType_38 : decode cX5_nextToType 38 = .ok (.iload 4, 2) := by decide +kernel
theorem dX5_nextToType_40 : decode cX5_nextToType 40 = .ok (.invokestatic 117, 3) := by decide +kernel
theorem dX5_nextToType_43 : decode cX5_nextToType 43 = .ok (.ifCond .eq 28, 3) := by decide +kernel
theorem dX5_nextToType_46 : decode cX5_nextToType 46 = .ok (.aload_n 0, 1) := by decide +kernel
theorem dX5_nextToType_47 : decode cX5_nextToType 47 = .ok (.iload 4, 2) := by decide +kernel
theorem dX5_nextToType_49 : decode cX5_nextToType 49 = .ok (.invokevirtual 208, 3) := by decide +kernel
theorem dX5_nextToType_52 : decode cX5_nextToType 52 = .ok (.istore 5, 2) := by decide +kernel
theorem dX5_nextToType_54 : decode cX5_nextToType 54 = .ok (.iload_n 2, 1) := by decide +kernel
theorem dX5_nextToType_55 : decode cX5_nextToType 55 = .ok (.iconst (-1), 1) := by decide +kernel
theorem dX5_nextToType_56 : decode cX5_nextToType 56 = .ok (.if_icmp .eq 9, 3) := by decide +kernel
theorem dX5_nextToType_59 : decode cX5_nextToType 59 = .ok (.iload 5, 2) := by decide +kernel
theorem dX5_nextToType_61 : decode cX5_nextToType 61 = .ok (.iload_n 3, 1) := by decide +kernel
theorem dX5_nextToType_62 : decode cX5_nextToType 62 = .ok (.if_icmp .le 9, 3) := by decide +kernel
theorem dX5_nextToType_65 : decode cX5_nextToType 65 = .ok (.iload 4, 2) := by decide +kernel
theorem dX5_nextToType_67 : decode cX5_nextToType 67 = .ok (.istore_n 2, 1) := by decide +kernel
theorem dX5_nextToType_68 : decode cX5_nextToType 68 = .ok (.iload 5, 2) := by decide +kernel
theorem dX5_nextToType_70 : decode cX5_nextToType 70 = .ok (.istore_n 3, 1) := by decide +kernel
theorem dX5_nextToType_71 : decode cX5_nextToType 71 = .ok (.iinc 4 1, 3) := by decide +kernel
theorem dX5_nextToType_74 : decode cX5_nextToType 74 = .ok (.goto (-49), 3) := by decide +kernel
theorem dX5_nextToType_77 : decode cX5_nextToType 77 = .ok (.iload_n 2, 1) := by decide +kernel
theorem dX5_nextToType_78 : decode cX5_nextToType 78 = .ok (.ireturn, 1) := by decide +kernel
theorem dX5_requireFunction_0 : decode cX5_requireFunction 0 = .ok (.iload_n 1, 1) := by decide +kernel
theorem dX5_requireFunction_1 : decode cX5_requireFunction 1 = .ok (.ifCond .lt 14, 3) := by decide +kernel
theorem dX5_requireFunction_4 : decode cX5_requireFunction 4 = .ok (.iload_n 1, 1) := by decide +kernel
theorem dX5_requireFunction_5 : decode cX5_requireFunction 5 = .ok (.aload_n 0, 1) := by decide +kernel
theorem dX5_requireFunction_6 : decode cX5_requireFunction 6 = .ok (.getfield 10, 3) := by decide +kernel
theorem dX5_requireFunction_9 : decode cX5_requireFunction 9 = .ok (.getfield 36, 3) := by decide +kernel
theorem dX5_requireFunction_12 : decode cX5_requireFunction 12 = .ok (.if_icmp .lt 14, 3) := by decide +kernel
theorem dX5_requireFunction_15 : decode cX5_requireFunction 15 = .ok (.new 128, 3) := by decide +kernel
theorem dX5_requireFunction_18 : decode cX5_requireFunction 18 = .ok (.dup, 1) := by decide +kernel
theorem dX5_requireFunction_19 : decode cX5_requireFunction 19 = .ok (.ldc_w 269, 3) := by decide +kernel
theorem dX5_requireFunction_22 : decode cX5_requireFunction 22 = .ok (.invokespecial 132, 3) := by decide +kernel
theorem dX5_requireFunction_25 : decode cX5_requireFunction 25 = .ok (.athrow, 1) := by decide +kernel
theorem dX5_requireFunction_26 : decode cX5_requireFunction 26 = .ok (.return_, 1) := by decide +kernel
theorem dX5_requireHints_0 : decode cX5_requireHints 0 = .ok (.iload_n 0, 1) := by decide +kernel
theorem dX5_requireHints_1 : decode cX5_requireHints 1 = .ok (.ifCond .lt 17, 3) := by decide +kernel
theorem dX5_requireHints_4 : decode cX5_requireHints 4 = .ok (.iload_n 0, 1) := by decide +kernel
theorem dX5_requireHints_5 : decode cX5_requireHints 5 = .ok (.iconst 3, 1) := by decide +kernel
theorem dX5_requireHints_6 : decode cX5_requireHints 6 = .ok (.if_icmp .gt 12, 3) := by decide +kernel
theorem dX5_requireHints_9 : decode cX5_requireHints 9 = .ok (.iload_n 1, 1) := by decide +kernel
theorem dX5_requireHints_10 : decode cX5_requireHints 10 = .ok (.ifCond .lt 8, 3) := by decide +kernel
theorem dX5_requireHints_13 : decode cX5_requireHints 13 = .ok (.iload_n 1, 1) := by decide +kernel
theorem dX5_requireHints_14 : decode cX5_requireHints 14 = .ok (.iconst 3, 1) := by decide +kernel
theorem dX5_requireHints_15 : decode cX5_requireHints 15 = .ok (.if_icmp .le 14, 3) := by decide +kernel
theorem dX5_requireHints_18 : decode cX5_requireHints 18 = .ok (.new 54, 3) := by decide +kernel
theorem dX5_requireHints_21 : decode cX5_requireHints 21 = .ok (.dup, 1) := by decide +kernel
theorem dX5_requireHints_22 : decode cX5_requireHints 22 = .ok (.ldc_w 271, 3) := by decide +kernel
theorem dX5_requireHints_25 : decode cX5_requireHints 25 = .ok (.invokespecial 58, 3) := by decide +kernel
theorem dX5_requireHints_28 : decode cX5_requireHints 28 = .ok (.athrow, 1) := by decide +kernel
theorem dX5_requireHints_29 : decode cX5_requireHints 29 = .ok (.return_, 1) := by decide +kernel
theorem dX5_requireWhat_0 : decode cX5_requireWhat 0 = .ok (.iload_n 0, 1) := by decide +kernel
theorem dX5_requireWhat_1 : decode cX5_requireWhat 1 = .ok (.ifCond .lt 8, 3) := by decide +kernel
theorem dX5_requireWhat_4 : decode cX5_requireWhat 4 = .ok (.iload_n 0, 1) := by decide +kernel
theorem dX5_requireWhat_5 : decode cX5_requireWhat 5 = .ok (.iload_n 1, 1) := by decide +kernel
theorem dX5_requireWhat_6 : decode cX5_requireWhat 6 = .ok (.if_icmp .le 14, 3) := by decide +kernel
theorem dX5_requireWhat_9 : decode cX5_requireWhat 9 = .ok (.new 54, 3) := by decide +kernel
theorem dX5_requireWhat_12 : decode cX5_requireWhat 12 = .ok (.dup, 1) := by decide +kernel
theorem dX5_requireWhat_13 : decode cX5_requireWhat 13 = .ok (.ldc_w 273, 3) := by decide +kernel
theorem dX5_requireWhat_16 : decode cX5_requireWhat 16 = .ok (.invokespecial 58, 3) := by decide +kernel
theorem dX5_requireWhat_19 : decode cX5_requireWhat 19 = .ok (.athrow, 1) := by decide +kernel
theorem dX5_requireWhat_20 : decode cX5_requireWhat 20 = .ok (.return_, 1) := by decide +kernel
theorem dX5_requireBudget_0 : decode cX5_requireBudget 0 = .ok (.iload_n 0, 1) := by decide +kernel
theorem dX5_requireBudget_1 : decode cX5_requireBudget 1 = .ok (.ifCond .lt 9, 3) := by decide +kernel
theorem dX5_requireBudget_4 : decode cX5_requireBudget 4 = .ok (.iload_n 0, 1) := by decide +kernel
theorem dX5_requireBudget_5 : decode cX5_requireBudget 5 = .ok (.bipush 20, 2) := by decide +kernel
theorem dX5_requireBudget_7 : decode cX5_requireBudget 7 = .ok (.if_icmp .le 14, 3) := by decide +kernel
theorem dX5_requireBudget_10 : decode cX5_requireBudget 10 = .ok (.new 54, 3) := by decide +kernel
theorem dX5_requireBudget_13 : decode cX5_requireBudget 13 = .ok (.dup, 1) := by decide +kernel
theorem dX5_requireBudget_14 : decode cX5_requireBudget 14 = .ok (.ldc_w 275, 3) := by decide +kernel
theorem dX5_requireBudget_17 : decode cX5_requireBudget 17 = .ok (.invokespecial 58, 3) := by decide +kernel
theorem dX5_requireBudget_20 : decode cX5_requireBudget 20 = .ok (.athrow, 1) := by decide +kernel
theorem dX5_requireBudget_21 : decode cX5_requireBudget 21 = .ok (.return_, 1) := by decide +kernel
set_option maxRecDepth 20000 in
theorem ggX5_requireValue_X5_isValue : GoodIn wsX5_requireValue wsX5_isValue := goodIn_r _ [6] (by decide +kernel) (by decide +kernel)
set_option maxRecDepth 20000 in
theorem gX5_requireValue_X5_isValue : GoodIn wsX5_requireValue (va_wsS RX5 277 yX5_isValue wsX5_isValue) := goodIn_app (goodIn_of _ (by decide +kernel)) ggX5_requireValue_X5_isValue
theorem dX5_requireValue_0 : decode cX5_requireValue 0 = .ok (.iload_n 0, 1) := by decide +kernel
theorem dX5_requireValue_1 : decode cX5_requireValue 1 = .ok (.iload_n 1, 1) := by decide +kernel
theorem dX5_requireValue_2 : decode cX5_requireValue 2 = .ok (.invokestatic 277, 3) := by decide +kernel
theorem dX5_requireValue_5 : decode cX5_requireValue 5 = .ok (.ifCond .ne 14, 3) := by decide +kernel
theorem dX5_requireValue_8 : decode cX5_requireValue 8 = .ok (.new 54, 3) := by decide +kernel
theorem dX5_requireValue_11 : decode cX5_requireValue 11 = .ok (.dup, 1) := by decide +kernel
theorem dX5_requireValue_12 : decode cX5_requireValue 12 = .ok (.ldc_w 280, 3) := by decide +kernel
theorem dX5_requireValue_15 : decode cX5_requireValue 15 = .ok (.invokespecial 58, 3) := by decide +kernel
theorem dX5_requireValue_18 : decode cX5_requireValue 18 = .ok (.athrow, 1) := by decide +kernel
theorem dX5_requireValue_19 : decode cX5_requireValue 19 = .ok (.return_, 1) := by decide +kernel
theorem dX5_isValue_0 : decode cX5_isValue 0 = .ok (.iload_n 0, 1) := by decide +kernel
theorem dX5_isValue_1 : decode cX5_isValue 1 = .ok (.tableswitch 79 0 2 #[27, 47, 64], 27) := by decide +kernel
theorem dX5_isValue_28 : decode cX5_isValue 28 = .ok (.iload_n 1, 1) := by decide +kernel
theorem dX5_isValue_29 : decode cX5_isValue 29 = .ok (.sipush (-999), 3) := by decide +kernel
theorem dX5_isValue_32 : decode cX5_isValue 32 = .ok (.if_icmp .lt 14, 3) := by decide +kernel
theorem dX5_isValue_35 : decode cX5_isValue 35 = .ok (.iload_n 1, 1) := by decide +kernel
theorem dX5_isValue_36 : decode cX5_isValue 36 = .ok (.sipush 999, 3) := by decide +kernel
theorem dX5_isValue_39 : decode cX5_isValue 39 = .ok (.if_icmp .gt 7, 3) := by decide +kernel
theorem dX5_isValue_42 : decode cX5_isValue 42 = .ok (.iconst 1, 1) := by decide +kernel
theorem dX5_isValue_43 : decode cX5_isValue 43 = .ok (.goto 4, 3) := by decide +kernel
theorem dX5_isValue_46 : decode cX5_isValue 46 = .ok (.iconst 0, 1) := by decide +kernel
theorem dX5_isValue_47 : decode cX5_isValue 47 = .ok (.ireturn, 1) := by decide +kernel
theorem dX5_isValue_48 : decode cX5_isValue 48 = .ok (.iload_n 1, 1) := by decide +kernel
theorem dX5_isValue_49 : decode cX5_isValue 49 = .ok (.ifCond .lt 14, 3) := by decide +kernel
theorem dX5_isValue_52 : decode cX5_isValue 52 = .ok (.iload_n 1, 1) := by decide +kernel
theorem dX5_isValue_53 : decode cX5_isValue 53 = .ok (.sipush 999, 3) := by decide +kernel
theorem dX5_isValue_56 : decode cX5_isValue 56 = .ok (.if_icmp .gt 7, 3) := by decide +kernel
theorem dX5_isValue_59 : decode cX5_isValue 59 = .ok (.iconst 1, 1) := by decide +kernel
theorem dX5_isValue_60 : decode cX5_isValue 60 = .ok (.goto 4, 3) := by decide +kernel
theorem dX5_isValue_63 : decode cX5_isValue 63 = .ok (.iconst 0, 1) := by decide +kernel
theorem dX5_isValue_64 : decode cX5_isValue 64 = .ok (.ireturn, 1) := by decide +kernel
theorem dX5_isValue_65 : decode cX5_isValue 65 = .ok (.iload_n 1, 1) := by decide +kernel
theorem dX5_isValue_66 : decode cX5_isValue 66 = .ok (.ifCond .eq 8, 3) := by decide +kernel
theorem dX5_isValue_69 : decode cX5_isValue 69 = .ok (.iload_n 1, 1) := by decide +kernel
theorem dX5_isValue_70 : decode cX5_isValue 70 = .ok (.iconst 1, 1) := by decide +kernel
theorem dX5_isValue_71 : decode cX5_isValue 71 = .ok (.if_icmp .ne 7, 3) := by decide +kernel
theorem dX5_isValue_74 : decode cX5_isValue 74 = .ok (.iconst 1, 1) := by decide +kernel
theorem dX5_isValue_75 : decode cX5_isValue 75 = .ok (.goto 4, 3) := by decide +kernel
theorem dX5_isValue_78 : decode cX5_isValue 78 = .ok (.iconst 0, 1) := by decide +kernel
theorem dX5_isValue_79 : decode cX5_isValue 79 = .ok (.ireturn, 1) := by decide +kernel
theorem dX5_isValue_80 : decode cX5_isValue 80 = .ok (.iconst 0, 1) := by decide +kernel
theorem dX5_isValue_81 : decode cX5_isValue 81 = .ok (.ireturn, 1) := by decide +kernel
theorem dX5_has_0 : decode cX5_has 0 = .ok (.iload_n 1, 1) := by decide +kernel
theorem dX5_has_1 : decode cX5_has 1 = .ok (.iconst (-1), 1) := by decide +kernel
theorem dX5_has_2 : decode cX5_has 2 = .ok (.if_icmp .eq 16, 3) := by decide +kernel
theorem dX5_has_5 : decode cX5_has 5 = .ok (.iload_n 0, 1) := by decide +kernel
theorem dX5_has_6 : decode cX5_has 6 = .ok (.iload_n 1, 1) := by decide +kernel
theorem dX5_has_7 : decode cX5_has 7 = .ok (.ishr, 1) := by decide +kernel
theorem dX5_has_8 : decode cX5_has 8 = .ok (.iconst 1, 1) := by decide +kernel
theorem dX5_has_9 : decode cX5_has 9 = .ok (.iand, 1) := by decide +kernel
theorem dX5_has_10 : decode cX5_has 10 = .ok (.iconst 1, 1) := by decide +kernel
theorem dX5_has_11 : decode cX5_has 11 = .ok (.if_icmp .ne 7, 3) := by decide +kernel
theorem dX5_has_14 : decode cX5_has 14 = .ok (.iconst 1, 1) := by decide +kernel
theorem dX5_has_15 : decode cX5_has 15 = .ok (.goto 4, 3) := by decide +kernel
theorem dX5_has_18 : decode cX5_has 18 = .ok (.iconst 0, 1) := by decide +kernel
theorem dX5_has_19 : decode cX5_has 19 = .ok (.ireturn, 1) := by decide +kernel
theorem dX5_with_0 : decode cX5_with 0 = .ok (.iload_n 0, 1) := by decide +kernel
theorem dX5_with_1 : decode cX5_with 1 = .ok (.iconst 1, 1) := by decide +kernel
theorem dX5_with_2 : decode cX5_with 2 = .ok (.iload_n 1, 1) := by decide +kernel
theorem dX5_with_3 : decode cX5_with 3 = .ok (.ishl, 1) := by decide +kernel
theorem dX5_with_4 : decode cX5_with 4 = .ok (.ior, 1) := by decide +kernel
theorem dX5_with_5 : decode cX5_with 5 = .ok (.ireturn, 1) := by decide +kernel
theorem dX5_without_0 : decode cX5_without 0 = .ok (.iload_n 0, 1) := by decide +kernel
theorem dX5_without_1 : decode cX5_without 1 = .ok (.iconst 1, 1) := by decide +kernel
theorem dX5_without_2 : decode cX5_without 2 = .ok (.iload_n 1, 1) := by decide +kernel
theorem dX5_without_3 : decode cX5_without 3 = .ok (.ishl, 1) := by decide +kernel
theorem dX5_without_4 : decode cX5_without 4 = .ok (.iconst (-1), 1) := by decide +kernel
theorem dX5_without_5 : decode cX5_without 5 = .ok (.ixor, 1) := by decide +kernel
theorem dX5_without_6 : decode cX5_without 6 = .ok (.iand, 1) := by decide +kernel
theorem dX5_without_7 : decode cX5_without 7 = .ok (.ireturn, 1) := by decide +kernel
theorem dX5_rowOf_0 : decode cX5_rowOf 0 = .ok (.iload_n 0, 1) := by decide +kernel
theorem dX5_rowOf_1 : decode cX5_rowOf 1 = .ok (.iconst 1, 1) := by decide +kernel
theorem dX5_rowOf_2 : decode cX5_rowOf 2 = .ok (.iadd, 1) := by decide +kernel
theorem dX5_rowOf_3 : decode cX5_rowOf 3 = .ok (.ireturn, 1) := by decide +kernel
theorem dX5_newCallTable_0 : decode cX5_newCallTable 0 = .ok (.bipush 11, 2) := by decide +kernel
theorem dX5_newCallTable_2 : decode cX5_newCallTable 2 = .ok (.bipush 10, 2) := by decide +kernel
theorem dX5_newCallTable_4 : decode cX5_newCallTable 4 = .ok (.multianewarray 282 2, 4) := by decide +kernel
theorem dX5_newCallTable_8 : decode cX5_newCallTable 8 = .ok (.areturn, 1) := by decide +kernel
theorem dX5_isCall_0 : decode cX5_isCall 0 = .ok (.iload_n 0, 1) := by decide +kernel
theorem dX5_isCall_1 : decode cX5_isCall 1 = .ok (.bipush 40, 2) := by decide +kernel
theorem dX5_isCall_3 : decode cX5_isCall 3 = .ok (.if_icmp .lt 7, 3) := by decide +kernel
theorem dX5_isCall_6 : decode cX5_isCall 6 = .ok (.iconst 1, 1) := by decide +kernel
theorem dX5_isCall_7 : decode cX5_isCall 7 = .ok (.goto 4, 3) := by decide +kernel
theorem dX5_isCall_10 : decode cX5_isCall 10 = .ok (.iconst 0, 1) := by decide +kernel
theorem dX5_isCall_11 : decode cX5_isCall 11 = .ok (.ireturn, 1) := by decide +kernel
theorem dX5_plainNeed_0 : decode cX5_plainNeed 0 = .ok (.iload_n 0, 1) := by decide +kernel
theorem dX5_plainNeed_1 : decode cX5_plainNeed 1 = .ok (.tableswitch 37 20 23 #[31, 33, 37, 35], 31) := by decide +kernel
theorem dX5_plainNeed_32 : decode cX5_plainNeed 32 = .ok (.iconst 1, 1) := by decide +kernel
theorem dX5_plainNeed_33 : decode cX5_plainNeed 33 = .ok (.ireturn, 1) := by decide +kernel
theorem dX5_plainNeed_34 : decode cX5_plainNeed 34 = .ok (.iconst 3, 1) := by decide +kernel
theorem dX5_plainNeed_35 : decode cX5_plainNeed 35 = .ok (.ireturn, 1) := by decide +kernel
theorem dX5_plainNeed_36 : decode cX5_plainNeed 36 = .ok (.iconst 2, 1) := by decide +kernel
theorem dX5_plainNeed_37 : decode cX5_plainNeed 37 = .ok (.ireturn, 1) := by decide +kernel
theorem dX5_plainNeed_38 : decode cX5_plainNeed 38 = .ok (.iconst 0, 1) := by decide +kernel
theorem dX5_plainNeed_39 : decode cX5_plainNeed 39 = .ok (.ireturn, 1) := by decide +kernel
theorem dX5_plainGift_0 : decode cX5_plainGift 0 = .ok (.iload_n 0, 1) := by decide +kernel
theorem dX5_plainGift_1 : decode cX5_plainGift 1 = .ok (.tableswitch 33 21 23 #[27, 29, 31], 27) := by decide +kernel
theorem dX5_plainGift_28 : decode cX5_plainGift 28 = .ok (.iconst 1, 1) := by decide +kernel
theorem dX5_plainGift_29 : decode cX5_plainGift 29 = .ok (.ireturn, 1) := by decide +kernel
theorem dX5_plainGift_30 : decode cX5_plainGift 30 = .ok (.iconst 2, 1) := by decide +kernel
theorem dX5_plainGift_31 : decode cX5_plainGift 31 = .ok (.ireturn, 1) := by decide +kernel
theorem dX5_plainGift_32 : decode cX5_plainGift 32 = .ok (.iconst 2, 1) := by decide +kernel
theorem dX5_plainGift_33 : decode cX5_plainGift 33 = .ok (.ireturn, 1) := by decide +kernel
theorem dX5_plainGift_34 : decode cX5_plainGift 34 = .ok (.iconst 0, 1) := by decide +kernel
theorem dX5_plainGift_35 : decode cX5_plainGift 35 = .ok (.ireturn, 1) := by decide +kernel
theorem dX6_init_0 : decode cX6_init 0 = .ok (.aload_n 0, 1) := by decide +kernel
theorem dX6_init_1 : decode cX6_init 1 = .ok (.invokespecial 1, 3) := by decide +kernel
theorem dX6_init_4 : decode cX6_init 4 = .ok (.aload_n 0, 1) := by decide +kernel
theorem dX6_init_5 : decode cX6_init 5 = .ok (.bipush 10, 2) := by decide +kernel
theorem dX6_init_7 : decode cX6_init 7 = .ok (.bipush 6, 2) := by decide +kernel
theorem dX6_init_9 : decode cX6_init 9 = .ok (.multianewarray 7 2, 4) := by decide +kernel
theorem dX6_init_13 : decode cX6_init 13 = .ok (.putfield 9, 3) := by decide +kernel
theorem dX6_init_16 : decode cX6_init 16 = .ok (.aload_n 0, 1) := by decide +kernel
theorem dX6_init_17 : decode cX6_init 17 = .ok (.bipush 10, 2) := by decide +kernel
theorem dX6_init_19 : decode cX6_init 19 = .ok (.newarray .int, 2) := by decide +kernel
theorem dX6_init_21 : decode cX6_init 21 = .ok (.putfield 14, 3) := by decide +kernel
theorem dX6_init_24 : decode cX6_init 24 = .ok (.aload_n 0, 1) := by decide +kernel
theorem dX6_init_25 : decode cX6_init 25 = .ok (.bipush 10, 2) := by decide +kernel
theorem dX6_init_27 : decode cX6_init 27 = .ok (.newarray .int, 2) := by decide +kernel
theorem dX6_init_29 : decode cX6_init 29 = .ok (.putfield 18, 3) := by decide +kernel
theorem dX6_init_32 : decode cX6_init 32 = .ok (.aload_n 0, 1) := by decide +kernel
theorem dX6_init_33 : decode cX6_init 33 = .ok (.bipush 10, 2) := by decide +kernel
theorem dX6_init_35 : decode cX6_init 35 = .ok (.newarray .int, 2) := by decide +kernel
theorem dX6_init_37 : decode cX6_init 37 = .ok (.putfield 21, 3) := by decide +kernel
theorem dX6_init_40 : decode cX6_init 40 = .ok (.aload_n 0, 1) := by decide +kernel
theorem dX6_init_41 : decode cX6_init 41 = .ok (.bipush 10, 2) := by decide +kernel
theorem dX6_init_43 : decode cX6_init 43 = .ok (.newarray .boolean, 2) := by decide +kernel
theorem dX6_init_45 : decode cX6_init 45 = .ok (.putfield 24, 3) := by decide +kernel
theorem dX6_init_48 : decode cX6_init 48 = .ok (.aload_n 0, 1) := by decide +kernel
theorem dX6_init_49 : decode cX6_init 49 = .ok (.bipush 14, 2) := by decide +kernel
theorem dX6_init_51 : decode cX6_init 51 = .ok (.newarray .int, 2) := by decide +kernel
theorem dX6_init_53 : decode cX6_init 53 = .ok (.putfield 28, 3) := by decide +kernel
theorem dX6_init_56 : decode cX6_init 56 = .ok (.aload_n 0, 1) := by decide +kernel
theorem dX6_init_57 : decode cX6_init 57 = .ok (.bipush 14, 2) := by decide +kernel
theorem dX6_init_59 : decode cX6_init 59 = .ok (.newarray .int, 2) := by decide +kernel
theorem dX6_init_61 : decode cX6_init 61 = .ok (.putfield 31, 3) := by decide +kernel
theorem dX6_init_64 : decode cX6_init 64 = .ok (.aload_n 0, 1) := by decide +kernel
theorem dX6_init_65 : decode cX6_init 65 = .ok (.bipush 8, 2) := by decide +kernel
theorem dX6_init_67 : decode cX6_init 67 = .ok (.newarray .int, 2) := by decide +kernel
