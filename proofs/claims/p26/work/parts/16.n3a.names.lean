set_option maxRecDepth 20000 in
theorem ggL_isRunRight_L_below : GoodIn wsL_isRunRight wsL_below := goodIn_r _ [4, 5] (by decide +kernel) (by decide +kernel)
set_option maxRecDepth 20000 in
theorem gL_isRunRight_L_below : GoodIn wsL_isRunRight (va_wsS RL 29 yL_below wsL_below) := goodIn_app (goodIn_of _ (by decide +kernel)) ggL_isRunRight_L_below
set_option maxRecDepth 20000 in
theorem ggL_isRunRight_X5_many : GoodIn wsL_isRunRight wsX5_many := goodIn_ca (goodIn_r _ [10, 11, 12, 13, 14, 15, 16, 17, 18, 19, 20, 9, 21, 22, 23, 24, 25, 26, 27, 28, 29, 30, 31, 32, 33, 34, 35, 36, 37, 38, 39, 40, 41, 42, 43, 44, 45, 46, 47, 48, 49, 50, 51, 52, 53, 54, 55, 56, 57, 58, 59, 60, 61, 62, 63, 64, 65, 66, 67, 68, 69, 70, 71, 72, 73, 74, 75, 76, 77, 78, 79, 80, 81, 82, 83, 84, 85, 86, 87, 88, 89, 90, 91, 92, 93, 94, 95, 96, 97, 98, 99, 100, 101, 270, 271, 272, 273, 274, 275, 276, 277, 278, 279, 280, 281, 282, 283, 284, 285, 286, 287, 288, 289, 290, 291] (by decide +kernel) (by decide +kernel)) (goodIn_sub (fun _ h => List.mem_cons_of_mem _ (List.mem_append_left _ (List.mem_append_right _ h))) (by decide +kernel))
set_option maxRecDepth 20000 in
theorem gL_isRunRight_X5_many : GoodIn wsL_isRunRight (wsV RL 33 RX5 yX5_many wsX5_many) := goodIn_app (goodIn_of _ (by decide +kernel)) ggL_isRunRight_X5_many
set_option maxRecDepth 20000 in
theorem ggL_isRunRight_X5_counted : GoodIn wsL_isRunRight wsX5_counted := goodIn_ca (goodIn_r _ [105, 15, 88, 106, 107, 108, 9, 109, 110, 111, 11, 12, 99, 100, 101, 270, 271, 272, 273, 279, 280, 281, 282, 283, 284, 274, 275, 276, 277, 278] (by decide +kernel) (by decide +kernel)) (goodIn_sub (fun _ h => List.mem_cons_of_mem _ (List.mem_append_right _ h)) (by decide +kernel))
set_option maxRecDepth 20000 in
theorem gL_isRunRight_X5_counted : GoodIn wsL_isRunRight (wsV RL 92 RX5 yX5_counted wsX5_counted) := goodIn_app (goodIn_of _ (by decide +kernel)) ggL_isRunRight_X5_counted
