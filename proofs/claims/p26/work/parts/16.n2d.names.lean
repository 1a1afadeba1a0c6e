set_option maxRecDepth 20000 in
theorem ggL_act_X5_type : GoodIn wsL_act wsX5_type := goodIn_ca (goodIn_ca (goodIn_r _ [213, 110, 111, 7, 9, 115, 116, 117, 5, 118, 119, 120, 8, 151, 34, 35, 30, 36, 37, 38, 39, 40, 41, 42, 43, 44, 45, 46, 47, 48, 49, 50, 51, 52, 53, 54, 55, 56, 57, 58, 59, 60, 61, 62, 63, 64, 65, 66, 67, 68, 214, 70, 71, 72, 150, 89, 90, 215, 73, 74, 216, 217, 218, 365, 366, 367, 368, 369, 370, 371, 372, 373, 380, 381, 382, 383, 384, 385, 386] (by decide +kernel) (by decide +kernel)) (goodIn_sub (fun _ h => List.mem_cons_of_mem _ (List.mem_append_left _ (List.mem_append_right _ h))) (by decide +kernel))) (goodIn_sub (fun _ h => List.mem_cons_of_mem _ (List.mem_append_right _ h)) (by decide +kernel))
set_option maxRecDepth 20000 in
theorem gL_act_X5_type : GoodIn wsL_act (wsV RL 77 RX5 yX5_type wsX5_type) := goodIn_app (goodIn_of _ (by decide +kernel)) ggL_act_X5_type
set_option maxRecDepth 20000 in
theorem ggL_act_X5_migrate : GoodIn wsL_act wsX5_migrate := goodIn_ca (goodIn_r _ [222, 18, 19, 7, 9, 223, 224, 225, 5, 226, 8, 27, 28, 29, 30, 31, 32, 33, 34, 35, 36, 37, 38, 39, 40, 41, 42, 43, 44, 45, 46, 47, 48, 49, 50, 51, 52, 53, 54, 55, 56, 57, 58, 59, 60, 61, 62, 63, 64, 65, 66, 67, 68, 69, 70, 71, 72, 73, 74, 150, 89, 90, 227, 228, 229, 230, 80, 81, 82, 83, 11, 84, 85, 86, 87, 88, 91, 92, 93, 94, 95, 96, 97, 215, 365, 366, 367, 368, 369, 370, 371, 372, 373, 380, 381, 382, 383, 384, 385, 386, 374, 375, 376, 377, 378, 379] (by decide +kernel) (by decide +kernel)) (goodIn_sub (fun _ h => List.mem_cons_of_mem _ (List.mem_append_left _ (List.mem_append_left _ (List.mem_append_right _ h)))) (by decide +kernel))
set_option maxRecDepth 20000 in
theorem gL_act_X5_migrate : GoodIn wsL_act (wsV RL 81 RX5 yX5_migrate wsX5_migrate) := goodIn_app (goodIn_of _ (by decide +kernel)) ggL_act_X5_migrate
set_option maxRecDepth 20000 in
theorem ggL_act_X5_budget : GoodIn wsL_act wsX5_budget := goodIn_ca (goodIn_r _ [234, 235, 236, 237, 5, 238, 18, 19, 365, 366, 367, 368] (by decide +kernel) (by decide +kernel)) (goodIn_sub (fun _ h => List.mem_cons_of_mem _ (List.mem_append_left _ (List.mem_append_left _ (List.mem_append_right _ h)))) (by decide +kernel))
set_option maxRecDepth 20000 in
theorem gL_act_X5_budget : GoodIn wsL_act (wsV RL 84 RX5 yX5_budget wsX5_budget) := goodIn_app (goodIn_of _ (by decide +kernel)) ggL_act_X5_budget
