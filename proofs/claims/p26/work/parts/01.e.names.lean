theorem dX4_tryOut_7 : decode cX4_tryOut 7 = .ok (.putfield 26, 3) := by decide +kernel
theorem dX4_tryOut_10 : decode cX4_tryOut 10 = .ok (.aload_n 0, 1) := by decide +kernel
theorem dX4_tryOut_11 : decode cX4_tryOut 11 = .ok (.iload_n 2, 1) := by decide +kernel
theorem dX4_tryOut_12 : decode cX4_tryOut 12 = .ok (.putfield 30, 3) := by decide +kernel
theorem dX4_tryOut_15 : decode cX4_tryOut 15 = .ok (.aload_n 0, 1) := by decide +kernel
theorem dX4_tryOut_16 : decode cX4_tryOut 16 = .ok (.iload_n 3, 1) := by decide +kernel
theorem dX4_tryOut_17 : decode cX4_tryOut 17 = .ok (.putfield 33, 3) := by decide +kernel
theorem dX4_tryOut_20 : decode cX4_tryOut 20 = .ok (.aload_n 0, 1) := by decide +kernel
theorem dX4_tryOut_21 : decode cX4_tryOut 21 = .ok (.iconst (-1), 1) := by decide +kernel
theorem dX4_tryOut_22 : decode cX4_tryOut 22 = .ok (.iload_n 1, 1) := by decide +kernel
theorem dX4_tryOut_23 : decode cX4_tryOut 23 = .ok (.iconst 1, 1) := by decide +kernel
theorem dX4_tryOut_24 : decode cX4_tryOut 24 = .ok (.invokevirtual 36, 3) := by decide +kernel
theorem dX4_tryOut_27 : decode cX4_tryOut 27 = .ok (.return_, 1) := by decide +kernel
theorem dX4_clear_0 : decode cX4_clear 0 = .ok (.iconst 0, 1) := by decide +kernel
theorem dX4_clear_1 : decode cX4_clear 1 = .ok (.istore_n 1, 1) := by decide +kernel
theorem dX4_clear_2 : decode cX4_clear 2 = .ok (.iload_n 1, 1) := by decide +kernel
theorem dX4_clear_3 : decode cX4_clear 3 = .ok (.bipush 10, 2) := by decide +kernel
theorem dX4_clear_5 : decode cX4_clear 5 = .ok (.if_icmp .gt 32, 3) := by decide +kernel
theorem dX4_clear_8 : decode cX4_clear 8 = .ok (.iconst 0, 1) := by decide +kernel
theorem dX4_clear_9 : decode cX4_clear 9 = .ok (.istore_n 2, 1) := by decide +kernel
theorem dX4_clear_10 : decode cX4_clear 10 = .ok (.iload_n 2, 1) := by decide +kernel
theorem dX4_clear_11 : decode cX4_clear 11 = .ok (.bipush 10, 2) := by decide +kernel
theorem dX4_clear_13 : decode cX4_clear 13 = .ok (.if_icmp .ge 18, 3) := by decide +kernel
theorem dX4_clear_16 : decode cX4_clear 16 = .ok (.aload_n 0, 1) := by decide +kernel
theorem dX4_clear_17 : decode cX4_clear 17 = .ok (.getfield 19, 3) := by decide +kernel
theorem dX4_clear_20 : decode cX4_clear 20 = .ok (.iload_n 1, 1) := by decide +kernel
theorem dX4_clear_21 : decode cX4_clear 21 = .ok (.aaload, 1) := by decide +kernel
theorem dX4_clear_22 : decode cX4_clear 22 = .ok (.iload_n 2, 1) := by decide +kernel
theorem dX4_clear_23 : decode cX4_clear 23 = .ok (.iconst 0, 1) := by decide +kernel
theorem dX4_clear_24 : decode cX4_clear 24 = .ok (.iastore, 1) := by decide +kernel
theorem dX4_clear_25 : decode cX4_clear 25 = .ok (.iinc 2 1, 3) := by decide +kernel
theorem dX4_clear_28 : decode cX4_clear 28 = .ok (.goto (-18), 3) := by decide +kernel
theorem dX4_clear_31 : decode cX4_clear 31 = .ok (.iinc 1 1, 3) := by decide +kernel
theorem dX4_clear_34 : decode cX4_clear 34 = .ok (.goto (-32), 3) := by decide +kernel
theorem dX4_clear_37 : decode cX4_clear 37 = .ok (.aload_n 0, 1) := by decide +kernel
theorem dX4_clear_38 : decode cX4_clear 38 = .ok (.iconst 0, 1) := by decide +kernel
theorem dX4_clear_39 : decode cX4_clear 39 = .ok (.putfield 40, 3) := by decide +kernel
theorem dX4_clear_42 : decode cX4_clear 42 = .ok (.aload_n 0, 1) := by decide +kernel
theorem dX4_clear_43 : decode cX4_clear 43 = .ok (.iconst 0, 1) := by decide +kernel
theorem dX4_clear_44 : decode cX4_clear 44 = .ok (.putfield 43, 3) := by decide +kernel
theorem dX4_clear_47 : decode cX4_clear 47 = .ok (.aload_n 0, 1) := by decide +kernel
theorem dX4_clear_48 : decode cX4_clear 48 = .ok (.iconst 0, 1) := by decide +kernel
theorem dX4_clear_49 : decode cX4_clear 49 = .ok (.putfield 46, 3) := by decide +kernel
theorem dX4_clear_52 : decode cX4_clear 52 = .ok (.aload_n 0, 1) := by decide +kernel
theorem dX4_clear_53 : decode cX4_clear 53 = .ok (.iconst 0, 1) := by decide +kernel
theorem dX4_clear_54 : decode cX4_clear 54 = .ok (.putfield 49, 3) := by decide +kernel
theorem dX4_clear_57 : decode cX4_clear 57 = .ok (.aload_n 0, 1) := by decide +kernel
theorem dX4_clear_58 : decode cX4_clear 58 = .ok (.iconst 0, 1) := by decide +kernel
theorem dX4_clear_59 : decode cX4_clear 59 = .ok (.putfield 52, 3) := by decide +kernel
theorem dX4_clear_62 : decode cX4_clear 62 = .ok (.aload_n 0, 1) := by decide +kernel
theorem dX4_clear_63 : decode cX4_clear 63 = .ok (.iconst (-1), 1) := by decide +kernel
theorem dX4_clear_64 : decode cX4_clear 64 = .ok (.putfield 55, 3) := by decide +kernel
theorem dX4_clear_67 : decode cX4_clear 67 = .ok (.aload_n 0, 1) := by decide +kernel
theorem dX4_clear_68 : decode cX4_clear 68 = .ok (.iconst 0, 1) := by decide +kernel
theorem dX4_clear_69 : decode cX4_clear 69 = .ok (.putfield 58, 3) := by decide +kernel
theorem dX4_clear_72 : decode cX4_clear 72 = .ok (.aload_n 0, 1) := by decide +kernel
theorem dX4_clear_73 : decode cX4_clear 73 = .ok (.iconst (-1), 1) := by decide +kernel
theorem dX4_clear_74 : decode cX4_clear 74 = .ok (.putfield 62, 3) := by decide +kernel
theorem dX4_clear_77 : decode cX4_clear 77 = .ok (.return_, 1) := by decide +kernel
theorem dX4_cost_0 : decode cX4_cost 0 = .ok (.aload_n 0, 1) := by decide +kernel
theorem dX4_cost_1 : decode cX4_cost 1 = .ok (.getfield 40, 3) := by decide +kernel
theorem dX4_cost_4 : decode cX4_cost 4 = .ok (.iconst 2, 1) := by decide +kernel
theorem dX4_cost_5 : decode cX4_cost 5 = .ok (.aload_n 0, 1) := by decide +kernel
theorem dX4_cost_6 : decode cX4_cost 6 = .ok (.getfield 43, 3) := by decide +kernel
theorem dX4_cost_9 : decode cX4_cost 9 = .ok (.imul, 1) := by decide +kernel
theorem dX4_cost_10 : decode cX4_cost 10 = .ok (.iadd, 1) := by decide +kernel
theorem dX4_cost_11 : decode cX4_cost 11 = .ok (.ireturn, 1) := by decide +kernel
set_option maxRecDepth 20000 in
theorem ggX4_enter_X4_fail : GoodIn wsX4_enter wsX4_fail := goodIn_r _ [17, 11, 18, 81, 82, 83, 84, 85, 86, 87, 88, 89, 90, 91, 92, 93] (by decide +kernel) (by decide +kernel)
set_option maxRecDepth 20000 in
theorem gX4_enter_X4_fail : GoodIn wsX4_enter (wsV RX4 65 RX4 yX4_fail wsX4_fail) := goodIn_app (goodIn_of _ (by decide +kernel)) ggX4_enter_X4_fail
set_option maxRecDepth 20000 in
theorem ggX4_enter_X5_rowOf : GoodIn wsX4_enter wsX5_rowOf := goodIn_r _ [21] (by decide +kernel) (by decide +kernel)
set_option maxRecDepth 20000 in
theorem gX4_enter_X5_rowOf_n75 : GoodIn wsX4_enter (wsX5_rowOf) := ggX4_enter_X5_rowOf
set_option maxRecDepth 20000 in
theorem ggX4_enter_X3_guardsCall : GoodIn wsX4_enter wsX3_guardsCall := goodIn_r _ [26, 27, 28, 29, 20, 30, 94, 95, 96, 97, 98, 99, 100, 101, 102] (by decide +kernel) (by decide +kernel)
set_option maxRecDepth 20000 in
theorem gX4_enter_X3_guardsCall : GoodIn wsX4_enter (wsV RX4 84 RX3 yX3_guardsCall wsX3_guardsCall) := goodIn_app (goodIn_of _ (by decide +kernel)) ggX4_enter_X3_guardsCall
set_option maxRecDepth 20000 in
theorem ggX4_enter_X4_guard : GoodIn wsX4_enter wsX4_guard := goodIn_r _ [34, 35, 36, 37, 38, 39, 40, 13, 14, 15, 16, 17, 11, 18, 81, 82, 83, 84, 85, 86, 87, 88, 89, 90, 91, 92, 93] (by decide +kernel) (by decide +kernel)
set_option maxRecDepth 20000 in
theorem gX4_enter_X4_guard : GoodIn wsX4_enter (wsV RX4 97 RX4 yX4_guard wsX4_guard) := goodIn_app (goodIn_of _ (by decide +kernel)) ggX4_enter_X4_guard
set_option maxRecDepth 20000 in
theorem ggX4_enter_X4_goThrough : GoodIn wsX4_enter wsX4_goThrough := goodIn_r _ [75, 7, 9, 76, 11, 77, 78, 79, 80, 16, 49, 50, 35, 8, 40, 51, 13, 14, 15, 17, 18, 52, 20, 53, 54, 55, 56, 57, 58, 29, 30, 59, 60, 61, 62, 2, 3, 4, 5, 63, 64, 65, 66, 67, 68, 69, 70, 71, 72, 73, 74, 0, 1, 6, 10, 12, 19, 21, 22, 23, 24, 25, 26, 27, 28, 31, 32, 33, 34, 36, 37, 38, 39, 41, 42, 43, 44, 45, 46, 47, 48, 81, 82, 83, 84, 85, 86, 87, 88, 89, 90, 91, 92, 93, 94, 95, 96, 97, 98, 99, 100, 101, 102] (by decide +kernel) (by decide +kernel)
set_option maxRecDepth 20000 in
theorem gX4_enter_X4_goThrough : GoodIn wsX4_enter (wsV RX4 100 RX4 yX4_goThrough wsX4_goThrough) := goodIn_app (goodIn_of _ (by decide +kernel)) ggX4_enter_X4_goThrough
set_option maxRecDepth 20000 in
theorem ggX4_enter_X3_guardsGive : GoodIn wsX4_enter wsX3_guardsGive := goodIn_r _ [47, 27, 48, 29, 20, 30, 94, 95, 96, 97, 98, 99, 100, 101, 102] (by decide +kernel) (by decide +kernel)
set_option maxRecDepth 20000 in
theorem gX4_enter_X3_guardsGive : GoodIn wsX4_enter (wsV RX4 103 RX3 yX3_guardsGive wsX3_guardsGive) := goodIn_app (goodIn_of _ (by decide +kernel)) ggX4_enter_X3_guardsGive
theorem dX4_enter_0 : decode cX4_enter 0 = .ok (.iload_n 3, 1) := by decide +kernel
theorem dX4_enter_1 : decode cX4_enter 1 = .ok (.bipush 12, 2) := by decide +kernel
theorem dX4_enter_3 : decode cX4_enter 3 = .ok (.if_icmp .le 10, 3) := by decide +kernel
theorem dX4_enter_6 : decode cX4_enter 6 = .ok (.aload_n 0, 1) := by decide +kernel
theorem dX4_enter_7 : decode cX4_enter 7 = .ok (.iconst 4, 1) := by decide +kernel
theorem dX4_enter_8 : decode cX4_enter 8 = .ok (.iconst (-1), 1) := by decide +kernel
theorem dX4_enter_9 : decode cX4_enter 9 = .ok (.invokevirtual 65, 3) := by decide +kernel
theorem dX4_enter_12 : decode cX4_enter 12 = .ok (.return_, 1) := by decide +kernel
theorem dX4_enter_13 : decode cX4_enter 13 = .ok (.aload_n 0, 1) := by decide +kernel
theorem dX4_enter_14 : decode cX4_enter 14 = .ok (.aload_n 0, 1) := by decide +kernel
theorem dX4_enter_15 : decode cX4_enter 15 = .ok (.getfield 49, 3) := by decide +kernel
theorem dX4_enter_18 : decode cX4_enter 18 = .ok (.iload_n 3, 1) := by decide +kernel
theorem dX4_enter_19 : decode cX4_enter 19 = .ok (.invokestatic 69, 3) := by decide +kernel
theorem dX4_enter_22 : decode cX4_enter 22 = .ok (.putfield 49, 3) := by decide +kernel
theorem dX4_enter_25 : decode cX4_enter 25 = .ok (.aload_n 0, 1) := by decide +kernel
theorem dX4_enter_26 : decode cX4_enter 26 = .ok (.getfield 19, 3) := by decide +kernel
theorem dX4_enter_29 : decode cX4_enter 29 = .ok (.iload_n 1, 1) := by decide +kernel
theorem dX4_enter_30 : decode cX4_enter 30 = .ok (.invokestatic 75, 3) := by decide +kernel
theorem dX4_enter_33 : decode cX4_enter 33 = .ok (.aaload, 1) := by decide +kernel
theorem dX4_enter_34 : decode cX4_enter 34 = .ok (.iload_n 2, 1) := by decide +kernel
theorem dX4_enter_35 : decode cX4_enter 35 = .ok (.dup2, 1) := by decide +kernel
theorem dX4_enter_36 : decode cX4_enter 36 = .ok (.iaload, 1) := by decide +kernel
theorem dX4_enter_37 : decode cX4_enter 37 = .ok (.iconst 1, 1) := by decide +kernel
theorem dX4_enter_38 : decode cX4_enter 38 = .ok (.iadd, 1) := by decide +kernel
theorem dX4_enter_39 : decode cX4_enter 39 = .ok (.iastore, 1) := by decide +kernel
theorem dX4_enter_40 : decode cX4_enter 40 = .ok (.aload_n 0, 1) := by decide +kernel
theorem dX4_enter_41 : decode cX4_enter 41 = .ok (.getfield 9, 3) := by decide +kernel
theorem dX4_enter_44 : decode cX4_enter 44 = .ok (.iload_n 1, 1) := by decide +kernel
theorem dX4_enter_45 : decode cX4_enter 45 = .ok (.iload_n 2, 1) := by decide +kernel
theorem dX4_enter_46 : decode cX4_enter 46 = .ok (.aload_n 0, 1) := by decide +kernel
theorem dX4_enter_47 : decode cX4_enter 47 = .ok (.getfield 9, 3) := by decide +kernel
theorem dX4_enter_50 : decode cX4_enter 50 = .ok (.getfield 79, 3) := by decide +kernel
theorem dX4_enter_53 : decode cX4_enter 53 = .ok (.invokevirtual 84, 3) := by decide +kernel
theorem dX4_enter_56 : decode cX4_enter 56 = .ok (.ifCond .eq 21, 3) := by decide +kernel
theorem dX4_enter_59 : decode cX4_enter 59 = .ok (.aload_n 0, 1) := by decide +kernel
theorem dX4_enter_60 : decode cX4_enter 60 = .ok (.aload_n 0, 1) := by decide +kernel
theorem dX4_enter_61 : decode cX4_enter 61 = .ok (.getfield 9, 3) := by decide +kernel
theorem dX4_enter_64 : decode cX4_enter 64 = .ok (.getfield 88, 3) := by decide +kernel
theorem dX4_enter_67 : decode cX4_enter 67 = .ok (.iload_n 2, 1) := by decide +kernel
theorem dX4_enter_68 : decode cX4_enter 68 = .ok (.aaload, 1) := by decide +kernel
theorem dX4_enter_69 : decode cX4_enter 69 = .ok (.getfield 92, 3) := by decide +kernel
theorem dX4_enter_72 : decode cX4_enter 72 = .ok (.iconst 2, 1) := by decide +kernel
theorem dX4_enter_73 : decode cX4_enter 73 = .ok (.iload_n 1, 1) := by decide +kernel
theorem dX4_enter_74 : decode cX4_enter 74 = .ok (.invokevirtual 97, 3) := by decide +kernel
theorem dX4_enter_77 : decode cX4_enter 77 = .ok (.aload_n 0, 1) := by decide +kernel
theorem dX4_enter_78 : decode cX4_enter 78 = .ok (.iload_n 2, 1) := by decide +kernel
theorem dX4_enter_79 : decode cX4_enter 79 = .ok (.iload_n 3, 1) := by decide +kernel
theorem dX4_enter_80 : decode cX4_enter 80 = .ok (.invokevirtual 100, 3) := by decide +kernel
theorem dX4_enter_83 : decode cX4_enter 83 = .ok (.aload_n 0, 1) := by decide +kernel
theorem dX4_enter_84 : decode cX4_enter 84 = .ok (.getfield 52, 3) := by decide +kernel
theorem dX4_enter_87 : decode cX4_enter 87 = .ok (.ifCond .ne 40, 3) := by decide +kernel
theorem dX4_enter_90 : decode cX4_enter 90 = .ok (.aload_n 0, 1) := by decide +kernel
theorem dX4_enter_91 : decode cX4_enter 91 = .ok (.getfield 9, 3) := by decide +kernel
theorem dX4_enter_94 : decode cX4_enter 94 = .ok (.iload_n 1, 1) := by decide +kernel
theorem dX4_enter_95 : decode cX4_enter 95 = .ok (.iload_n 2, 1) := by decide +kernel
theorem dX4_enter_96 : decode cX4_enter 96 = .ok (.aload_n 0, 1) := by decide +kernel
theorem dX4_enter_97 : decode cX4_enter 97 = .ok (.getfield 9, 3) := by decide +kernel
theorem dX4_enter_100 : decode cX4_enter 100 = .ok (.getfield 79, 3) := by decide +kernel
theorem dX4_enter_103 : decode cX4_enter 103 = .ok (.invokevirtual 103, 3) := by decide +kernel
theorem dX4_enter_106 : decode cX4_enter 106 = .ok (.ifCond .eq 21, 3) := by decide +kernel
theorem dX4_enter_109 : decode cX4_enter 109 = .ok (.aload_n 0, 1) := by decide +kernel
theorem dX4_enter_110 : decode cX4_enter 110 = .ok (.aload_n 0, 1) := by decide +kernel
theorem dX4_enter_111 : decode cX4_enter 111 = .ok (.getfield 9, 3) := by decide +kernel
theorem dX4_enter_114 : decode cX4_enter 114 = .ok (.getfield 88, 3) := by decide +kernel
theorem dX4_enter_117 : decode cX4_enter 117 = .ok (.iload_n 2, 1) := by decide +kernel
theorem dX4_enter_118 : decode cX4_enter 118 = .ok (.aaload, 1) := by decide +kernel
theorem dX4_enter_119 : decode cX4_enter 119 = .ok (.getfield 106, 3) := by decide +kernel
theorem dX4_enter_122 : decode cX4_enter 122 = .ok (.iconst 3, 1) := by decide +kernel
theorem dX4_enter_123 : decode cX4_enter 123 = .ok (.iload_n 2, 1) := by decide +kernel
theorem dX4_enter_124 : decode cX4_enter 124 = .ok (.invokevirtual 97, 3) := by decide +kernel
theorem dX4_enter_127 : decode cX4_enter 127 = .ok (.return_, 1) := by decide +kernel
set_option maxRecDepth 20000 in
theorem ggX4_goThrough_X4_begin : GoodIn wsX4_goThrough wsX4_begin := goodIn_r _ [10, 11, 12, 1, 13, 14, 15, 16, 17, 18, 9, 19, 4, 20, 21, 22, 23, 24, 25, 26, 27, 28, 29, 30, 31, 32, 33, 34, 35, 36, 37, 38, 39, 40, 41, 42, 43, 44, 45, 46, 47, 48, 49, 50, 51, 52, 53, 2, 54, 55, 56, 57, 58, 59, 60, 61, 62, 63, 64, 65, 66, 67, 68, 69, 70, 71, 72, 73, 74, 75, 76, 77, 78, 79, 80, 0, 3, 5, 6, 7, 8, 81, 82, 83, 84, 85, 86, 87, 88, 89, 90, 91, 92, 93, 94, 95, 96, 97, 98, 99, 100, 101, 102] (by decide +kernel) (by decide +kernel)
set_option maxRecDepth 20000 in
theorem gX4_goThrough_X4_begin : GoodIn wsX4_goThrough (wsV RX4 116 RX4 yX4_begin wsX4_begin) := goodIn_app (goodIn_of _ (by decide +kernel)) ggX4_goThrough_X4_begin
theorem dX4_goThrough_0 : decode cX4_goThrough 0 = .ok (.aload_n 0, 1) := by decide +kernel
theorem dX4_goThrough_1 : decode cX4_goThrough 1 = .ok (.getfield 9, 3) := by decide +kernel
theorem dX4_goThrough_4 : decode cX4_goThrough 4 = .ok (.getfield 88, 3) := by decide +kernel
theorem dX4_goThrough_7 : decode cX4_goThrough 7 = .ok (.iload_n 1, 1) := by decide +kernel
theorem dX4_goThrough_8 : decode cX4_goThrough 8 = .ok (.aaload, 1) := by decide +kernel
theorem dX4_goThrough_9 : decode cX4_goThrough 9 = .ok (.astore_n 3, 1) := by decide +kernel
theorem dX4_goThrough_10 : decode cX4_goThrough 10 = .ok (.iconst 0, 1) := by decide +kernel
theorem dX4_goThrough_11 : decode cX4_goThrough 11 = .ok (.istore 4, 2) := by decide +kernel
theorem dX4_goThrough_13 : decode cX4_goThrough 13 = .ok (.iload 4, 2) := by decide +kernel
theorem dX4_goThrough_15 : decode cX4_goThrough 15 = .ok (.aload_n 3, 1) := by decide +kernel
theorem dX4_goThrough_16 : decode cX4_goThrough 16 = .ok (.getfield 109, 3) := by decide +kernel
theorem dX4_goThrough_19 : decode cX4_goThrough 19 = .ok (.if_icmp .ge 29, 3) := by decide +kernel
theorem dX4_goThrough_22 : decode cX4_goThrough 22 = .ok (.aload_n 0, 1) := by decide +kernel
theorem dX4_goThrough_23 : decode cX4_goThrough 23 = .ok (.getfield 52, 3) := by decide +kernel
theorem dX4_goThrough_26 : decode cX4_goThrough 26 = .ok (.ifCond .ne 22, 3) := by decide +kernel
theorem dX4_goThrough_29 : decode cX4_goThrough 29 = .ok (.aload_n 0, 1) := by decide +kernel
theorem dX4_goThrough_30 : decode cX4_goThrough 30 = .ok (.iload_n 1, 1) := by decide +kernel
theorem dX4_goThrough_31 : decode cX4_goThrough 31 = .ok (.aload_n 3, 1) := by decide +kernel
theorem dX4_goThrough_32 : decode cX4_goThrough 32 = .ok (.getfield 112, 3) := by decide +kernel
theorem dX4_goThrough_35 : decode cX4_goThrough 35 = .ok (.iload 4, 2) := by decide +kernel
theorem dX4_goThrough_37 : decode cX4_goThrough 37 = .ok (.iaload, 1) := by decide +kernel
theorem dX4_goThrough_38 : decode cX4_goThrough 38 = .ok (.iload_n 2, 1) := by decide +kernel
theorem dX4_goThrough_39 : decode cX4_goThrough 39 = .ok (.invokevirtual 116, 3) := by decide +kernel
theorem dX4_goThrough_42 : decode cX4_goThrough 42 = .ok (.iinc 4 1, 3) := by decide +kernel
theorem dX4_goThrough_45 : decode cX4_goThrough 45 = .ok (.goto (-32), 3) := by decide +kernel
theorem dX4_goThrough_48 : decode cX4_goThrough 48 = .ok (.return_, 1) := by decide +kernel
set_option maxRecDepth 20000 in
theorem ggX4_begin_X4_fail : GoodIn wsX4_begin wsX4_fail := goodIn_r _ [11, 12, 13, 81, 82, 83, 84, 85, 86, 87, 88, 89, 90, 91, 92, 93] (by decide +kernel) (by decide +kernel)
set_option maxRecDepth 20000 in
theorem gX4_begin_X4_fail : GoodIn wsX4_begin (wsV RX4 65 RX4 yX4_fail wsX4_fail) := goodIn_app (goodIn_of _ (by decide +kernel)) ggX4_begin_X4_fail
set_option maxRecDepth 20000 in
theorem ggX4_begin_X5_isCall : GoodIn wsX4_begin wsX5_isCall := goodIn_r _ [16] (by decide +kernel) (by decide +kernel)
set_option maxRecDepth 20000 in
theorem gX4_begin_X5_isCall_n119 : GoodIn wsX4_begin (wsX5_isCall) := ggX4_begin_X5_isCall
set_option maxRecDepth 20000 in
theorem ggX4_begin_X4_enter : GoodIn wsX4_begin wsX4_enter := goodIn_r _ [44, 45, 28, 29, 30, 31, 46, 3, 4, 47, 48, 12, 49, 7, 8, 9, 10, 11, 13, 50, 15, 51, 52, 53, 54, 55, 56, 57, 58, 22, 23, 59, 60, 61, 62, 2, 63, 64, 65, 66, 5, 67, 68, 69, 70, 71, 72, 73, 74, 0, 1, 6, 14, 16, 17, 18, 19, 20, 21, 24, 25, 26, 27, 32, 33, 34, 35, 36, 37, 38, 39, 40, 41, 42, 43, 75, 76, 77, 78, 79, 80, 81, 82, 83, 84, 85, 86, 87, 88, 89, 90, 91, 92, 93, 94, 95, 96, 97, 98, 99, 100, 101, 102] (by decide +kernel) (by decide +kernel)
set_option maxRecDepth 20000 in
theorem gX4_begin_X4_enter : GoodIn wsX4_begin (wsV RX4 36 RX4 yX4_enter wsX4_enter) := goodIn_app (goodIn_of _ (by decide +kernel)) ggX4_begin_X4_enter
set_option maxRecDepth 20000 in
theorem ggX4_begin_X5_plainNeed : GoodIn wsX4_begin wsX5_plainNeed := goodIn_r _ [21] (by decide +kernel) (by decide +kernel)
set_option maxRecDepth 20000 in
theorem gX4_begin_X5_plainNeed_n123 : GoodIn wsX4_begin (wsX5_plainNeed) := ggX4_begin_X5_plainNeed
set_option maxRecDepth 20000 in
theorem ggX4_begin_X5_has : GoodIn wsX4_begin wsX5_has := goodIn_r _ [23] (by decide +kernel) (by decide +kernel)
set_option maxRecDepth 20000 in
theorem gX4_begin_X5_has_n126 : GoodIn wsX4_begin (wsX5_has) := ggX4_begin_X5_has
set_option maxRecDepth 20000 in
theorem ggX4_begin_X4_made : GoodIn wsX4_begin wsX4_made := goodIn_r _ [27, 6, 28, 29, 30, 31, 32, 33, 34, 35, 36, 37, 10, 38, 2, 39, 40, 41, 81, 82, 83, 84, 85, 86, 87, 88, 89, 90, 91, 92, 93] (by decide +kernel) (by decide +kernel)
set_option maxRecDepth 20000 in
theorem gX4_begin_X4_made : GoodIn wsX4_begin (wsV RX4 130 RX4 yX4_made wsX4_made) := goodIn_app (goodIn_of _ (by decide +kernel)) ggX4_begin_X4_made
set_option maxRecDepth 20000 in
theorem ggX4_begin_X5_plainGift : GoodIn wsX4_begin wsX5_plainGift := goodIn_r _ [43] (by decide +kernel) (by decide +kernel)
set_option maxRecDepth 20000 in
theorem gX4_begin_X5_plainGift_n133 : GoodIn wsX4_begin (wsX5_plainGift) := ggX4_begin_X5_plainGift
theorem dX4_begin_0 : decode cX4_begin 0 = .ok (.aload_n 0, 1) := by decide +kernel
theorem dX4_begin_1 : decode cX4_begin 1 = .ok (.getfield 40, 3) := by decide +kernel
theorem dX4_begin_4 : decode cX4_begin 4 = .ok (.sipush 200, 3) := by decide +kernel
theorem dX4_begin_7 : decode cX4_begin 7 = .ok (.if_icmp .lt 10, 3) := by decide +kernel
theorem dX4_begin_10 : decode cX4_begin 10 = .ok (.aload_n 0, 1) := by decide +kernel
theorem dX4_begin_11 : decode cX4_begin 11 = .ok (.iconst 5, 1) := by decide +kernel
theorem dX4_begin_12 : decode cX4_begin 12 = .ok (.iconst (-1), 1) := by decide +kernel
theorem dX4_begin_13 : decode cX4_begin 13 = .ok (.invokevirtual 65, 3) := by decide +kernel
theorem dX4_begin_16 : decode cX4_begin 16 = .ok (.return_, 1) := by decide +kernel
theorem dX4_begin_17 : decode cX4_begin 17 = .ok (.aload_n 0, 1) := by decide +kernel
theorem dX4_begin_18 : decode cX4_begin 18 = .ok (.dup, 1) := by decide +kernel
theorem dX4_begin_19 : decode cX4_begin 19 = .ok (.getfield 40, 3) := by decide +kernel
theorem dX4_begin_22 : decode cX4_begin 22 = .ok (.iconst 1, 1) := by decide +kernel
theorem dX4_begin_23 : decode cX4_begin 23 = .ok (.iadd, 1) := by decide +kernel
theorem dX4_begin_24 : decode cX4_begin 24 = .ok (.putfield 40, 3) := by decide +kernel
theorem dX4_begin_27 : decode cX4_begin 27 = .ok (.iload_n 2, 1) := by decide +kernel
theorem dX4_begin_28 : decode cX4_begin 28 = .ok (.invokestatic 119, 3) := by decide +kernel
theorem dX4_begin_31 : decode cX4_begin 31 = .ok (.ifCond .eq 16, 3) := by decide +kernel
theorem dX4_begin_34 : decode cX4_begin 34 = .ok (.aload_n 0, 1) := by decide +kernel
theorem dX4_begin_35 : decode cX4_begin 35 = .ok (.iload_n 1, 1) := by decide +kernel
theorem dX4_begin_36 : decode cX4_begin 36 = .ok (.iload_n 2, 1) := by decide +kernel
theorem dX4_begin_37 : decode cX4_begin 37 = .ok (.bipush 40, 2) := by decide +kernel
theorem dX4_begin_39 : decode cX4_begin 39 = .ok (.isub, 1) := by decide +kernel
theorem dX4_begin_40 : decode cX4_begin 40 = .ok (.iload_n 3, 1) := by decide +kernel
theorem dX4_begin_41 : decode cX4_begin 41 = .ok (.iconst 1, 1) := by decide +kernel
theorem dX4_begin_42 : decode cX4_begin 42 = .ok (.iadd, 1) := by decide +kernel
theorem dX4_begin_43 : decode cX4_begin 43 = .ok (.invokevirtual 36, 3) := by decide +kernel
theorem dX4_begin_46 : decode cX4_begin 46 = .ok (.return_, 1) := by decide +kernel
theorem dX4_begin_47 : decode cX4_begin 47 = .ok (.iload_n 2, 1) := by decide +kernel
theorem dX4_begin_48 : decode cX4_begin 48 = .ok (.invokestatic 123, 3) := by decide +kernel
theorem dX4_begin_51 : decode cX4_begin 51 = .ok (.istore 4, 2) := by decide +kernel
theorem dX4_begin_53 : decode cX4_begin 53 = .ok (.iload 4, 2) := by decide +kernel
theorem dX4_begin_55 : decode cX4_begin 55 = .ok (.iconst 3, 1) := by decide +kernel
theorem dX4_begin_56 : decode cX4_begin 56 = .ok (.if_icmp .eq 40, 3) := by decide +kernel
theorem dX4_begin_59 : decode cX4_begin 59 = .ok (.iload 4, 2) := by decide +kernel
theorem dX4_begin_61 : decode cX4_begin 61 = .ok (.aload_n 0, 1) := by decide +kernel
theorem dX4_begin_62 : decode cX4_begin 62 = .ok (.getfield 30, 3) := by decide +kernel
theorem dX4_begin_65 : decode cX4_begin 65 = .ok (.if_icmp .eq 31, 3) := by decide +kernel
theorem dX4_begin_68 : decode cX4_begin 68 = .ok (.aload_n 0, 1) := by decide +kernel
theorem dX4_begin_69 : decode cX4_begin 69 = .ok (.iconst 1, 1) := by decide +kernel
theorem dX4_begin_70 : decode cX4_begin 70 = .ok (.aload_n 0, 1) := by decide +kernel
theorem dX4_begin_71 : decode cX4_begin 71 = .ok (.getfield 9, 3) := by decide +kernel
theorem dX4_begin_74 : decode cX4_begin 74 = .ok (.getfield 79, 3) := by decide +kernel
theorem dX4_begin_77 : decode cX4_begin 77 = .ok (.iload_n 1, 1) := by decide +kernel
theorem dX4_begin_78 : decode cX4_begin 78 = .ok (.invokestatic 126, 3) := by decide +kernel
theorem dX4_begin_81 : decode cX4_begin 81 = .ok (.ifCond .eq 10, 3) := by decide +kernel
theorem dX4_begin_84 : decode cX4_begin 84 = .ok (.aload_n 0, 1) := by decide +kernel
theorem dX4_begin_85 : decode cX4_begin 85 = .ok (.getfield 62, 3) := by decide +kernel
theorem dX4_begin_88 : decode cX4_begin 88 = .ok (.goto 4, 3) := by decide +kernel
theorem dX4_begin_91 : decode cX4_begin 91 = .ok (.iload_n 1, 1) := by decide +kernel
theorem dX4_begin_92 : decode cX4_begin 92 = .ok (.invokevirtual 65, 3) := by decide +kernel
theorem dX4_begin_95 : decode cX4_begin 95 = .ok (.return_, 1) := by decide +kernel
theorem dX4_begin_96 : decode cX4_begin 96 = .ok (.aload_n 0, 1) := by decide +kernel
theorem dX4_begin_97 : decode cX4_begin 97 = .ok (.aload_n 0, 1) := by decide +kernel
theorem dX4_begin_98 : decode cX4_begin 98 = .ok (.iload_n 2, 1) := by decide +kernel
theorem dX4_begin_99 : decode cX4_begin 99 = .ok (.invokevirtual 130, 3) := by decide +kernel
theorem dX4_begin_102 : decode cX4_begin 102 = .ok (.putfield 33, 3) := by decide +kernel
theorem dX4_begin_105 : decode cX4_begin 105 = .ok (.aload_n 0, 1) := by decide +kernel
theorem dX4_begin_106 : decode cX4_begin 106 = .ok (.iload_n 2, 1) := by decide +kernel
theorem dX4_begin_107 : decode cX4_begin 107 = .ok (.invokestatic 133, 3) := by decide +kernel
theorem dX4_begin_110 : decode cX4_begin 110 = .ok (.putfield 30, 3) := by decide +kernel
theorem dX4_begin_113 : decode cX4_begin 113 = .ok (.return_, 1) := by decide +kernel
set_option maxRecDepth 20000 in
theorem ggX4_guard_X4_fail : GoodIn wsX4_guard wsX4_fail := goodIn_r _ [11, 12, 13, 14, 15, 16, 17, 18, 19, 20, 21, 22, 23, 24, 25, 26] (by decide +kernel) (by decide +kernel)
set_option maxRecDepth 20000 in
theorem gX4_guard_X4_fail : GoodIn wsX4_guard (wsV RX4 65 RX4 yX4_fail wsX4_fail) := goodIn_app (goodIn_of _ (by decide +kernel)) ggX4_guard_X4_fail
theorem dX4_guard_0 : decode cX4_guard 0 = .ok (.iload_n 1, 1) := by decide +kernel
theorem dX4_guard_1 : decode cX4_guard 1 = .ok (.aload_n 0, 1) := by decide +kernel
theorem dX4_guard_2 : decode cX4_guard 2 = .ok (.getfield 30, 3) := by decide +kernel
theorem dX4_guard_5 : decode cX4_guard 5 = .ok (.if_icmp .ne 7, 3) := by decide +kernel
theorem dX4_guard_8 : decode cX4_guard 8 = .ok (.iconst 1, 1) := by decide +kernel
theorem dX4_guard_9 : decode cX4_guard 9 = .ok (.goto 4, 3) := by decide +kernel
theorem dX4_guard_12 : decode cX4_guard 12 = .ok (.iconst 0, 1) := by decide +kernel
theorem dX4_guard_13 : decode cX4_guard 13 = .ok (.istore 4, 2) := by decide +kernel
theorem dX4_guard_15 : decode cX4_guard 15 = .ok (.aload_n 0, 1) := by decide +kernel
theorem dX4_guard_16 : decode cX4_guard 16 = .ok (.getfield 43, 3) := by decide +kernel
theorem dX4_guard_19 : decode cX4_guard 19 = .ok (.aload_n 0, 1) := by decide +kernel
theorem dX4_guard_20 : decode cX4_guard 20 = .ok (.getfield 26, 3) := by decide +kernel
theorem dX4_guard_23 : decode cX4_guard 23 = .ok (.if_icmp .ge 25, 3) := by decide +kernel
theorem dX4_guard_26 : decode cX4_guard 26 = .ok (.aload_n 0, 1) := by decide +kernel
theorem dX4_guard_27 : decode cX4_guard 27 = .ok (.dup, 1) := by decide +kernel
theorem dX4_guard_28 : decode cX4_guard 28 = .ok (.getfield 43, 3) := by decide +kernel
theorem dX4_guard_31 : decode cX4_guard 31 = .ok (.iconst 1, 1) := by decide +kernel
theorem dX4_guard_32 : decode cX4_guard 32 = .ok (.iadd, 1) := by decide +kernel
theorem dX4_guard_33 : decode cX4_guard 33 = .ok (.putfield 43, 3) := by decide +kernel
theorem dX4_guard_36 : decode cX4_guard 36 = .ok (.iload 4, 2) := by decide +kernel
theorem dX4_guard_38 : decode cX4_guard 38 = .ok (.ifCond .ne 9, 3) := by decide +kernel
theorem dX4_guard_41 : decode cX4_guard 41 = .ok (.aload_n 0, 1) := by decide +kernel
theorem dX4_guard_42 : decode cX4_guard 42 = .ok (.iload_n 2, 1) := by decide +kernel
theorem dX4_guard_43 : decode cX4_guard 43 = .ok (.iload_n 3, 1) := by decide +kernel
theorem dX4_guard_44 : decode cX4_guard 44 = .ok (.invokevirtual 65, 3) := by decide +kernel
theorem dX4_guard_47 : decode cX4_guard 47 = .ok (.return_, 1) := by decide +kernel
theorem dX4_guard_48 : decode cX4_guard 48 = .ok (.aload_n 0, 1) := by decide +kernel
theorem dX4_guard_49 : decode cX4_guard 49 = .ok (.dup, 1) := by decide +kernel
theorem dX4_guard_50 : decode cX4_guard 50 = .ok (.getfield 46, 3) := by decide +kernel
theorem dX4_guard_53 : decode cX4_guard 53 = .ok (.iconst 1, 1) := by decide +kernel
theorem dX4_guard_54 : decode cX4_guard 54 = .ok (.iadd, 1) := by decide +kernel
theorem dX4_guard_55 : decode cX4_guard 55 = .ok (.putfield 46, 3) := by decide +kernel
theorem dX4_guard_58 : decode cX4_guard 58 = .ok (.iload 4, 2) := by decide +kernel
theorem dX4_guard_60 : decode cX4_guard 60 = .ok (.ifCond .ne 20, 3) := by decide +kernel
theorem dX4_guard_63 : decode cX4_guard 63 = .ok (.aload_n 0, 1) := by decide +kernel
theorem dX4_guard_64 : decode cX4_guard 64 = .ok (.getfield 58, 3) := by decide +kernel
theorem dX4_guard_67 : decode cX4_guard 67 = .ok (.ifCond .ne 13, 3) := by decide +kernel
theorem dX4_guard_70 : decode cX4_guard 70 = .ok (.aload_n 0, 1) := by decide +kernel
theorem dX4_guard_71 : decode cX4_guard 71 = .ok (.iconst 1, 1) := by decide +kernel
theorem dX4_guard_72 : decode cX4_guard 72 = .ok (.putfield 58, 3) := by decide +kernel
theorem dX4_guard_75 : decode cX4_guard 75 = .ok (.aload_n 0, 1) := by decide +kernel
theorem dX4_guard_76 : decode cX4_guard 76 = .ok (.iload_n 3, 1) := by decide +kernel
theorem dX4_guard_77 : decode cX4_guard 77 = .ok (.putfield 62, 3) := by decide +kernel
theorem dX4_guard_80 : decode cX4_guard 80 = .ok (.return_, 1) := by decide +kernel
theorem dX4_fail_0 : decode cX4_fail 0 = .ok (.aload_n 0, 1) := by decide +kernel
theorem dX4_fail_1 : decode cX4_fail 1 = .ok (.iload_n 1, 1) := by decide +kernel
theorem dX4_fail_2 : decode cX4_fail 2 = .ok (.putfield 52, 3) := by decide +kernel
theorem dX4_fail_5 : decode cX4_fail 5 = .ok (.aload_n 0, 1) := by decide +kernel
theorem dX4_fail_6 : decode cX4_fail 6 = .ok (.iload_n 2, 1) := by decide +kernel
theorem dX4_fail_7 : decode cX4_fail 7 = .ok (.putfield 55, 3) := by decide +kernel
theorem dX4_fail_10 : decode cX4_fail 10 = .ok (.return_, 1) := by decide +kernel
set_option maxRecDepth 20000 in
theorem ggX4_made_X4_shownLength : GoodIn wsX4_made wsX4_shownLength := goodIn_r _ [13, 14, 1, 15, 16, 4, 17, 18, 19, 20, 21, 22, 23, 24, 25, 26, 27, 28, 29, 30] (by decide +kernel) (by decide +kernel)
set_option maxRecDepth 20000 in
theorem gX4_made_X4_shownLength : GoodIn wsX4_made (wsV RX4 136 RX4 yX4_shownLength wsX4_shownLength) := goodIn_app (goodIn_of _ (by decide +kernel)) ggX4_made_X4_shownLength
theorem dX4_made_0 : decode cX4_made 0 = .ok (.iload_n 1, 1) := by decide +kernel
theorem dX4_made_1 : decode cX4_made 1 = .ok (.tableswitch 78 20 24 #[35, 40, 45, 58, 65], 35) := by decide +kernel
theorem dX4_made_36 : decode cX4_made 36 = .ok (.aload_n 0, 1) := by decide +kernel
theorem dX4_made_37 : decode cX4_made 37 = .ok (.getfield 33, 3) := by decide +kernel
theorem dX4_made_40 : decode cX4_made 40 = .ok (.ireturn, 1) := by decide +kernel
theorem dX4_made_41 : decode cX4_made 41 = .ok (.aload_n 0, 1) := by decide +kernel
theorem dX4_made_42 : decode cX4_made 42 = .ok (.invokevirtual 136, 3) := by decide +kernel
theorem dX4_made_45 : decode cX4_made 45 = .ok (.ireturn, 1) := by decide +kernel
theorem dX4_made_46 : decode cX4_made 46 = .ok (.aload_n 0, 1) := by decide +kernel
theorem dX4_made_47 : decode cX4_made 47 = .ok (.getfield 33, 3) := by decide +kernel
theorem dX4_made_50 : decode cX4_made 50 = .ok (.ifCond .le 7, 3) := by decide +kernel
theorem dX4_made_53 : decode cX4_made 53 = .ok (.iconst 1, 1) := by decide +kernel
theorem dX4_made_54 : decode cX4_made 54 = .ok (.goto 4, 3) := by decide +kernel
theorem dX4_made_57 : decode cX4_made 57 = .ok (.iconst 0, 1) := by decide +kernel
theorem dX4_made_58 : decode cX4_made 58 = .ok (.ireturn, 1) := by decide +kernel
theorem dX4_made_59 : decode cX4_made 59 = .ok (.iconst 1, 1) := by decide +kernel
theorem dX4_made_60 : decode cX4_made 60 = .ok (.aload_n 0, 1) := by decide +kernel
theorem dX4_made_61 : decode cX4_made 61 = .ok (.getfield 33, 3) := by decide +kernel
theorem dX4_made_64 : decode cX4_made 64 = .ok (.isub, 1) := by decide +kernel
theorem dX4_made_65 : decode cX4_made 65 = .ok (.ireturn, 1) := by decide +kernel
theorem dX4_made_66 : decode cX4_made 66 = .ok (.sipush (-999), 3) := by decide +kernel
theorem dX4_made_69 : decode cX4_made 69 = .ok (.aload_n 0, 1) := by decide +kernel
theorem dX4_made_70 : decode cX4_made 70 = .ok (.getfield 33, 3) := by decide +kernel
theorem dX4_made_73 : decode cX4_made 73 = .ok (.iconst 5, 1) := by decide +kernel
theorem dX4_made_74 : decode cX4_made 74 = .ok (.isub, 1) := by decide +kernel
theorem dX4_made_75 : decode cX4_made 75 = .ok (.invokestatic 69, 3) := by decide +kernel
theorem dX4_made_78 : decode cX4_made 78 = .ok (.ireturn, 1) := by decide +kernel
theorem dX4_made_79 : decode cX4_made 79 = .ok (.sipush 999, 3) := by decide +kernel
theorem dX4_made_82 : decode cX4_made 82 = .ok (.aload_n 0, 1) := by decide +kernel
theorem dX4_made_83 : decode cX4_made 83 = .ok (.getfield 33, 3) := by decide +kernel
theorem dX4_made_86 : decode cX4_made 86 = .ok (.iload_n 1, 1) := by decide +kernel
theorem dX4_made_87 : decode cX4_made 87 = .ok (.iadd, 1) := by decide +kernel
theorem dX4_made_88 : decode cX4_made 88 = .ok (.invokestatic 140, 3) := by decide +kernel
theorem dX4_made_91 : decode cX4_made 91 = .ok (.ireturn, 1) := by decide +kernel
theorem dX4_shownLength_0 : decode cX4_shownLength 0 = .ok (.aload_n 0, 1) := by decide +kernel
theorem dX4_shownLength_1 : decode cX4_shownLength 1 = .ok (.getfield 30, 3) := by decide +kernel
theorem dX4_shownLength_4 : decode cX4_shownLength 4 = .ok (.iconst 1, 1) := by decide +kernel
theorem dX4_shownLength_5 : decode cX4_shownLength 5 = .ok (.if_icmp .ne 8, 3) := by decide +kernel
theorem dX4_shownLength_8 : decode cX4_shownLength 8 = .ok (.aload_n 0, 1) := by decide +kernel
theorem dX4_shownLength_9 : decode cX4_shownLength 9 = .ok (.getfield 33, 3) := by decide +kernel
theorem dX4_shownLength_12 : decode cX4_shownLength 12 = .ok (.ireturn, 1) := by decide +kernel
theorem dX4_shownLength_13 : decode cX4_shownLength 13 = .ok (.aload_n 0, 1) := by decide +kernel
theorem dX4_shownLength_14 : decode cX4_shownLength 14 = .ok (.getfield 30, 3) := by decide +kernel
theorem dX4_shownLength_17 : decode cX4_shownLength 17 = .ok (.iconst 2, 1) := by decide +kernel
theorem dX4_shownLength_18 : decode cX4_shownLength 18 = .ok (.if_icmp .ne 17, 3) := by decide +kernel
theorem dX4_shownLength_21 : decode cX4_shownLength 21 = .ok (.aload_n 0, 1) := by decide +kernel
theorem dX4_shownLength_22 : decode cX4_shownLength 22 = .ok (.getfield 33, 3) := by decide +kernel
theorem dX4_shownLength_25 : decode cX4_shownLength 25 = .ok (.iconst 1, 1) := by decide +kernel
theorem dX4_shownLength_26 : decode cX4_shownLength 26 = .ok (.if_icmp .ne 7, 3) := by decide +kernel
theorem dX4_shownLength_29 : decode cX4_shownLength 29 = .ok (.iconst 4, 1) := by decide +kernel
theorem dX4_shownLength_30 : decode cX4_shownLength 30 = .ok (.goto 4, 3) := by decide +kernel
theorem dX4_shownLength_33 : decode cX4_shownLength 33 = .ok (.iconst 5, 1) := by decide +kernel
theorem dX4_shownLength_34 : decode cX4_shownLength 34 = .ok (.ireturn, 1) := by decide +kernel
theorem dX4_shownLength_35 : decode cX4_shownLength 35 = .ok (.aload_n 0, 1) := by decide +kernel
theorem dX4_shownLength_36 : decode cX4_shownLength 36 = .ok (.getfield 33, 3) := by decide +kernel
theorem dX4_shownLength_39 : decode cX4_shownLength 39 = .ok (.invokestatic 143, 3) := by decide +kernel
theorem dX4_shownLength_42 : decode cX4_shownLength 42 = .ok (.bipush 10, 2) := by decide +kernel
theorem dX4_shownLength_44 : decode cX4_shownLength 44 = .ok (.if_icmp .ge 7, 3) := by decide +kernel
theorem dX4_shownLength_47 : decode cX4_shownLength 47 = .ok (.iconst 1, 1) := by decide +kernel
theorem dX4_shownLength_48 : decode cX4_shownLength 48 = .ok (.goto 20, 3) := by decide +kernel
theorem dX4_shownLength_51 : decode cX4_shownLength 51 = .ok (.aload_n 0, 1) := by decide +kernel
theorem dX4_shownLength_52 : decode cX4_shownLength 52 = .ok (.getfield 33, 3) := by decide +kernel
theorem dX4_shownLength_55 : decode cX4_shownLength 55 = .ok (.invokestatic 143, 3) := by decide +kernel
theorem dX4_shownLength_58 : decode cX4_shownLength 58 = .ok (.bipush 100, 2) := by decide +kernel
theorem dX4_shownLength_60 : decode cX4_shownLength 60 = .ok (.if_icmp .ge 7, 3) := by decide +kernel
theorem dX4_shownLength_63 : decode cX4_shownLength 63 = .ok (.iconst 2, 1) := by decide +kernel
theorem dX4_shownLength_64 : decode cX4_shownLength 64 = .ok (.goto 4, 3) := by decide +kernel
theorem dX4_shownLength_67 : decode cX4_shownLength 67 = .ok (.iconst 3, 1) := by decide +kernel
theorem dX4_shownLength_68 : decode cX4_shownLength 68 = .ok (.istore_n 1, 1) := by decide +kernel
theorem dX4_shownLength_69 : decode cX4_shownLength 69 = .ok (.aload_n 0, 1) := by decide +kernel
theorem dX4_shownLength_70 : decode cX4_shownLength 70 = .ok (.getfield 33, 3) := by decide +kernel
theorem dX4_shownLength_73 : decode cX4_shownLength 73 = .ok (.ifCond .ge 9, 3) := by decide +kernel
theorem dX4_shownLength_76 : decode cX4_shownLength 76 = .ok (.iload_n 1, 1) := by decide +kernel
theorem dX4_shownLength_77 : decode cX4_shownLength 77 = .ok (.iconst 1, 1) := by decide +kernel
theorem dX4_shownLength_78 : decode cX4_shownLength 78 = .ok (.iadd, 1) := by decide +kernel
theorem dX4_shownLength_79 : decode cX4_shownLength 79 = .ok (.goto 4, 3) := by decide +kernel
theorem dX4_shownLength_82 : decode cX4_shownLength 82 = .ok (.iload_n 1, 1) := by decide +kernel
theorem dX4_shownLength_83 : decode cX4_shownLength 83 = .ok (.ireturn, 1) := by decide +kernel
set_option maxRecDepth 20000 in
theorem ggX5_init_X3_init : GoodIn wsX5_init wsX3_init := goodIn_r _ [19, 20, 2, 3, 21, 22, 23, 24, 25, 26, 27, 28, 29, 30, 31, 32, 33, 34, 35, 36, 37, 38, 39, 57, 58, 59, 60, 61, 85, 86, 87, 88, 89, 90, 91] (by decide +kernel) (by decide +kernel)
set_option maxRecDepth 20000 in
theorem gX5_init_X3_init : GoodIn wsX5_init (wsX3_init) := ggX5_init_X3_init
set_option maxRecDepth 20000 in
theorem ggX5_init_X4_init : GoodIn wsX5_init wsX4_init := goodIn_r _ [42, 43, 2, 3, 44, 45, 46, 47, 48, 49, 33, 66, 67, 68, 69, 70, 71, 72, 73, 74, 75, 76, 77, 78] (by decide +kernel) (by decide +kernel)
set_option maxRecDepth 20000 in
theorem gX5_init_X4_init : GoodIn wsX5_init (wsX4_init) := ggX5_init_X4_init
set_option maxRecDepth 20000 in
theorem ggX5_init_X0_init : GoodIn wsX5_init wsX0_init := goodIn_r _ [52, 53, 2, 3, 54, 33, 55, 56, 46, 47, 48, 49, 79, 80, 81, 82, 83, 84] (by decide +kernel) (by decide +kernel)
set_option maxRecDepth 20000 in
theorem gX5_init_X0_init : GoodIn wsX5_init (wsX0_init) := ggX5_init_X0_init
theorem dX5_init_0 : decode cX5_init 0 = .ok (.aload_n 0, 1) := by decide +kernel
theorem dX5_init_1 : decode cX5_init 1 = .ok (.invokespecial 1, 3) := by decide +kernel
theorem dX5_init_4 : decode cX5_init 4 = .ok (.aload_n 0, 1) := by decide +kernel
theorem dX5_init_5 : decode cX5_init 5 = .ok (.new 7, 3) := by decide +kernel
theorem dX5_init_8 : decode cX5_init 8 = .ok (.dup, 1) := by decide +kernel
theorem dX5_init_9 : decode cX5_init 9 = .ok (.invokespecial 9, 3) := by decide +kernel
theorem dX5_init_12 : decode cX5_init 12 = .ok (.putfield 10, 3) := by decide +kernel
theorem dX5_init_15 : decode cX5_init 15 = .ok (.aload_n 0, 1) := by decide +kernel
theorem dX5_init_16 : decode cX5_init 16 = .ok (.new 16, 3) := by decide +kernel
theorem dX5_init_19 : decode cX5_init 19 = .ok (.dup, 1) := by decide +kernel
theorem dX5_init_20 : decode cX5_init 20 = .ok (.aload_n 0, 1) := by decide +kernel
theorem dX5_init_21 : decode cX5_init 21 = .ok (.getfield 10, 3) := by decide +kernel
theorem dX5_init_24 : decode cX5_init 24 = .ok (.invokespecial 18, 3) := by decide +kernel
theorem dX5_init_27 : decode cX5_init 27 = .ok (.putfield 21, 3) := by decide +kernel
theorem dX5_init_30 : decode cX5_init 30 = .ok (.aload_n 0, 1) := by decide +kernel
theorem dX5_init_31 : decode cX5_init 31 = .ok (.new 25, 3) := by decide +kernel
theorem dX5_init_34 : decode cX5_init 34 = .ok (.dup, 1) := by decide +kernel
theorem dX5_init_35 : decode cX5_init 35 = .ok (.invokespecial 27, 3) := by decide +kernel
theorem dX5_init_38 : decode cX5_init 38 = .ok (.putfield 28, 3) := by decide +kernel
theorem dX5_init_41 : decode cX5_init 41 = .ok (.aload_n 0, 1) := by decide +kernel
theorem dX5_init_42 : decode cX5_init 42 = .ok (.bipush 20, 2) := by decide +kernel
theorem dX5_init_44 : decode cX5_init 44 = .ok (.putfield 32, 3) := by decide +kernel
theorem dX5_init_47 : decode cX5_init 47 = .ok (.return_, 1) := by decide +kernel
theorem dX5_function_0 : decode cX5_function 0 = .ok (.aload_n 0, 1) := by decide +kernel
theorem dX5_function_1 : decode cX5_function 1 = .ok (.getfield 10, 3) := by decide +kernel
theorem dX5_function_4 : decode cX5_function 4 = .ok (.getfield 36, 3) := by decide +kernel
theorem dX5_function_7 : decode cX5_function 7 = .ok (.bipush 10, 2) := by decide +kernel
theorem dX5_function_9 : decode cX5_function 9 = .ok (.if_icmp .lt 13, 3) := by decide +kernel
theorem dX5_function_12 : decode cX5_function 12 = .ok (.new 39, 3) := by decide +kernel
theorem dX5_function_15 : decode cX5_function 15 = .ok (.dup, 1) := by decide +kernel
theorem dX5_function_16 : decode cX5_function 16 = .ok (.ldc 41, 2) := by decide +kernel
theorem dX5_function_18 : decode cX5_function 18 = .ok (.invokespecial 43, 3) := by decide +kernel
theorem dX5_function_21 : decode cX5_function 21 = .ok (.athrow, 1) := by decide +kernel
theorem dX5_function_22 : decode cX5_function 22 = .ok (.aload_n 0, 1) := by decide +kernel
theorem dX5_function_23 : decode cX5_function 23 = .ok (.getfield 10, 3) := by decide +kernel
theorem dX5_function_26 : decode cX5_function 26 = .ok (.dup, 1) := by decide +kernel
theorem dX5_function_27 : decode cX5_function 27 = .ok (.getfield 36, 3) := by decide +kernel
theorem dX5_function_30 : decode cX5_function 30 = .ok (.iconst 1, 1) := by decide +kernel
theorem dX5_function_31 : decode cX5_function 31 = .ok (.iadd, 1) := by decide +kernel
theorem dX5_function_32 : decode cX5_function 32 = .ok (.putfield 36, 3) := by decide +kernel
theorem dX5_function_35 : decode cX5_function 35 = .ok (.aload_n 0, 1) := by decide +kernel
theorem dX5_function_36 : decode cX5_function 36 = .ok (.getfield 10, 3) := by decide +kernel
theorem dX5_function_39 : decode cX5_function 39 = .ok (.getfield 36, 3) := by decide +kernel
theorem dX5_function_42 : decode cX5_function 42 = .ok (.iconst 1, 1) := by decide +kernel
theorem dX5_function_43 : decode cX5_function 43 = .ok (.isub, 1) := by decide +kernel
theorem dX5_function_44 : decode cX5_function 44 = .ok (.ireturn, 1) := by decide +kernel
set_option maxRecDepth 20000 in
theorem ggX5_step_X5_requireFunction : GoodIn wsX5_step wsX5_requireFunction := goodIn_ca (goodIn_r _ [13, 14, 15, 5, 16, 90, 91, 92, 93, 94, 95, 96, 97, 98] (by decide +kernel) (by decide +kernel)) (goodIn_sub (fun _ h => List.mem_cons_of_mem _ (List.mem_append_right _ h)) (by decide +kernel))
set_option maxRecDepth 20000 in
theorem gX5_step_X5_requireFunction : GoodIn wsX5_step (wsV RX5 46 RX5 yX5_requireFunction wsX5_requireFunction) := goodIn_app (goodIn_of _ (by decide +kernel)) ggX5_step_X5_requireFunction
set_option maxRecDepth 20000 in
theorem ggX5_step_X3_isStep : GoodIn wsX5_step wsX3_isStep := goodIn_r _ [21, 22, 94, 95, 96, 97, 98] (by decide +kernel) (by decide +kernel)
set_option maxRecDepth 20000 in
theorem gX5_step_X3_isStep : GoodIn wsX5_step (wsV RX5 50 RX3 yX3_isStep wsX3_isStep) := goodIn_app (goodIn_of _ (by decide +kernel)) ggX5_step_X3_isStep
set_option maxRecDepth 20000 in
theorem ggX5_step_X3_afterStepsChanged : GoodIn wsX5_step wsX3_afterStepsChanged := goodIn_r _ [26, 27, 28, 29, 30, 20, 31, 32, 33, 34, 35, 36, 37, 38, 39, 40, 22, 41, 42, 43, 44, 45, 46, 47, 48, 49, 50, 51, 52, 53, 54, 55, 56, 57, 58, 59, 60, 61, 62, 63, 12, 64, 65, 66, 67, 68, 69, 70, 71, 72, 73, 74, 75, 76, 77, 78, 79, 80, 81, 82, 83, 84, 85, 86, 87, 88, 89, 94, 95, 96, 97, 98, 99, 100, 101, 102, 103, 104, 105] (by decide +kernel) (by decide +kernel)
set_option maxRecDepth 20000 in
theorem gX5_step_X3_afterStepsChanged : GoodIn wsX5_step (wsV RX5 72 RX3 yX3_afterStepsChanged wsX3_afterStepsChanged) := goodIn_app (goodIn_of _ (by decide +kernel)) ggX5_step_X3_afterStepsChanged
theorem dX5_step_0 : decode cX5_step 0 = .ok (.aload_n 0, 1) := by decide +kernel
theorem dX5_step_1 : decode cX5_step 1 = .ok (.iload_n 1, 1) := by decide +kernel
theorem dX5_step_2 : decode cX5_step 2 = .ok (.invokevirtual 46, 3) := by decide +kernel
theorem dX5_step_5 : decode cX5_step 5 = .ok (.aload_n 0, 1) := by decide +kernel
theorem dX5_step_6 : decode cX5_step 6 = .ok (.getfield 10, 3) := by decide +kernel
theorem dX5_step_9 : decode cX5_step 9 = .ok (.iload_n 2, 1) := by decide +kernel
theorem dX5_step_10 : decode cX5_step 10 = .ok (.invokevirtual 50, 3) := by decide +kernel
theorem dX5_step_13 : decode cX5_step 13 = .ok (.ifCond .ne 13, 3) := by decide +kernel
theorem dX5_step_16 : decode cX5_step 16 = .ok (.new 54, 3) := by decide +kernel
theorem dX5_step_19 : decode cX5_step 19 = .ok (.dup, 1) := by decide +kernel
theorem dX5_step_20 : decode cX5_step 20 = .ok (.ldc 56, 2) := by decide +kernel
theorem dX5_step_22 : decode cX5_step 22 = .ok (.invokespecial 58, 3) := by decide +kernel
theorem dX5_step_25 : decode cX5_step 25 = .ok (.athrow, 1) := by decide +kernel
theorem dX5_step_26 : decode cX5_step 26 = .ok (.aload_n 0, 1) := by decide +kernel
theorem dX5_step_27 : decode cX5_step 27 = .ok (.getfield 10, 3) := by decide +kernel
theorem dX5_step_30 : decode cX5_step 30 = .ok (.getfield 59, 3) := by decide +kernel
theorem dX5_step_33 : decode cX5_step 33 = .ok (.iload_n 1, 1) := by decide +kernel
theorem dX5_step_34 : decode cX5_step 34 = .ok (.aaload, 1) := by decide +kernel
theorem dX5_step_35 : decode cX5_step 35 = .ok (.astore_n 3, 1) := by decide +kernel
theorem dX5_step_36 : decode cX5_step 36 = .ok (.aload_n 3, 1) := by decide +kernel
theorem dX5_step_37 : decode cX5_step 37 = .ok (.getfield 63, 3) := by decide +kernel
theorem dX5_step_40 : decode cX5_step 40 = .ok (.bipush 6, 2) := by decide +kernel
theorem dX5_step_42 : decode cX5_step 42 = .ok (.if_icmp .lt 13, 3) := by decide +kernel
theorem dX5_step_45 : decode cX5_step 45 = .ok (.new 39, 3) := by decide +kernel
theorem dX5_step_48 : decode cX5_step 48 = .ok (.dup, 1) := by decide +kernel
theorem dX5_step_49 : decode cX5_step 49 = .ok (.ldc 66, 2) := by decide +kernel
theorem dX5_step_51 : decode cX5_step 51 = .ok (.invokespecial 43, 3) := by decide +kernel
theorem dX5_step_54 : decode cX5_step 54 = .ok (.athrow, 1) := by decide +kernel
theorem dX5_step_55 : decode cX5_step 55 = .ok (.aload_n 3, 1) := by decide +kernel
theorem dX5_step_56 : decode cX5_step 56 = .ok (.getfield 68, 3) := by decide +kernel
theorem dX5_step_59 : decode cX5_step 59 = .ok (.aload_n 3, 1) := by decide +kernel
theorem dX5_step_60 : decode cX5_step 60 = .ok (.getfield 63, 3) := by decide +kernel
theorem dX5_step_63 : decode cX5_step 63 = .ok (.iload_n 2, 1) := by decide +kernel
theorem dX5_step_64 : decode cX5_step 64 = .ok (.iastore, 1) := by decide +kernel
theorem dX5_step_65 : decode cX5_step 65 = .ok (.aload_n 3, 1) := by decide +kernel
theorem dX5_step_66 : decode cX5_step 66 = .ok (.dup, 1) := by decide +kernel
theorem dX5_step_67 : decode cX5_step 67 = .ok (.getfield 63, 3) := by decide +kernel
theorem dX5_step_70 : decode cX5_step 70 = .ok (.iconst 1, 1) := by decide +kernel
theorem dX5_step_71 : decode cX5_step 71 = .ok (.iadd, 1) := by decide +kernel
theorem dX5_step_72 : decode cX5_step 72 = .ok (.putfield 63, 3) := by decide +kernel
theorem dX5_step_75 : decode cX5_step 75 = .ok (.aload_n 0, 1) := by decide +kernel
theorem dX5_step_76 : decode cX5_step 76 = .ok (.getfield 10, 3) := by decide +kernel
theorem dX5_step_79 : decode cX5_step 79 = .ok (.invokevirtual 72, 3) := by decide +kernel
theorem dX5_step_82 : decode cX5_step 82 = .ok (.aload_n 3, 1) := by decide +kernel
theorem dX5_step_83 : decode cX5_step 83 = .ok (.getfield 63, 3) := by decide +kernel
theorem dX5_step_86 : decode cX5_step 86 = .ok (.ireturn, 1) := by decide +kernel
set_option maxRecDepth 20000 in
theorem ggX5_unstep_X5_requireFunction : GoodIn wsX5_unstep wsX5_requireFunction := goodIn_ca (goodIn_r _ [11, 12, 13, 3, 14, 84, 85, 86, 87, 88, 89, 90, 91, 92] (by decide +kernel) (by decide +kernel)) (goodIn_sub (fun _ h => List.mem_cons_of_mem _ (List.mem_append_right _ h)) (by decide +kernel))
set_option maxRecDepth 20000 in
theorem gX5_unstep_X5_requireFunction : GoodIn wsX5_unstep (wsV RX5 46 RX5 yX5_requireFunction wsX5_requireFunction) := goodIn_app (goodIn_of _ (by decide +kernel)) ggX5_unstep_X5_requireFunction
set_option maxRecDepth 20000 in
theorem ggX5_unstep_X3_afterStepsChanged : GoodIn wsX5_unstep wsX3_afterStepsChanged := goodIn_r _ [19, 20, 21, 22, 23, 18, 24, 25, 26, 27, 28, 29, 30, 31, 32, 33, 34, 35, 36, 37, 38, 39, 40, 41, 42, 43, 44, 45, 46, 47, 48, 49, 50, 51, 52, 53, 54, 55, 56, 57, 10, 58, 59, 60, 61, 62, 63, 64, 65, 66, 67, 68, 69, 70, 71, 72, 73, 74, 75, 76, 77, 78, 79, 80, 81, 82, 83, 88, 89, 90, 91, 92, 93, 94, 95, 96, 97, 98, 99] (by decide +kernel) (by decide +kernel)
set_option maxRecDepth 20000 in
theorem gX5_unstep_X3_afterStepsChanged : GoodIn wsX5_unstep (wsV RX5 72 RX3 yX3_afterStepsChanged wsX3_afterStepsChanged) := goodIn_app (goodIn_of _ (by decide +kernel)) ggX5_unstep_X3_afterStepsChanged
theorem dX5_unstep_0 : decode cX5_unstep 0 = .ok (.aload_n 0, 1) := by decide +kernel
theorem dX5_unstep_1 : decode cX5_unstep 1 = .ok (.iload_n 1, 1) := by decide +kernel
theorem dX5_unstep_2 : decode cX5_unstep 2 = .ok (.invokevirtual 46, 3) := by decide +kernel
theorem dX5_unstep_5 : decode cX5_unstep 5 = .ok (.aload_n 0, 1) := by decide +kernel
theorem dX5_unstep_6 : decode cX5_unstep 6 = .ok (.getfield 10, 3) := by decide +kernel
theorem dX5_unstep_9 : decode cX5_unstep 9 = .ok (.getfield 59, 3) := by decide +kernel
theorem dX5_unstep_12 : decode cX5_unstep 12 = .ok (.iload_n 1, 1) := by decide +kernel
theorem dX5_unstep_13 : decode cX5_unstep 13 = .ok (.aaload, 1) := by decide +kernel
theorem dX5_unstep_14 : decode cX5_unstep 14 = .ok (.astore_n 2, 1) := by decide +kernel
theorem dX5_unstep_15 : decode cX5_unstep 15 = .ok (.aload_n 2, 1) := by decide +kernel
theorem dX5_unstep_16 : decode cX5_unstep 16 = .ok (.getfield 63, 3) := by decide +kernel
theorem dX5_unstep_19 : decode cX5_unstep 19 = .ok (.ifCond .gt 13, 3) := by decide +kernel
theorem dX5_unstep_22 : decode cX5_unstep 22 = .ok (.new 39, 3) := by decide +kernel
theorem dX5_unstep_25 : decode cX5_unstep 25 = .ok (.dup, 1) := by decide +kernel
theorem dX5_unstep_26 : decode cX5_unstep 26 = .ok (.ldc 75, 2) := by decide +kernel
theorem dX5_unstep_28 : decode cX5_unstep 28 = .ok (.invokespecial 43, 3) := by decide +kernel
theorem dX5_unstep_31 : decode cX5_unstep 31 = .ok (.athrow, 1) := by decide +kernel
theorem dX5_unstep_32 : decode cX5_unstep 32 = .ok (.aload_n 2, 1) := by decide +kernel
theorem dX5_unstep_33 : decode cX5_unstep 33 = .ok (.dup, 1) := by decide +kernel
theorem dX5_unstep_34 : decode cX5_unstep 34 = .ok (.getfield 63, 3) := by decide +kernel
theorem dX5_unstep_37 : decode cX5_unstep 37 = .ok (.iconst 1, 1) := by decide +kernel
theorem dX5_unstep_38 : decode cX5_unstep 38 = .ok (.isub, 1) := by decide +kernel
theorem dX5_unstep_39 : decode cX5_unstep 39 = .ok (.putfield 63, 3) := by decide +kernel
theorem dX5_unstep_42 : decode cX5_unstep 42 = .ok (.aload_n 0, 1) := by decide +kernel
theorem dX5_unstep_43 : decode cX5_unstep 43 = .ok (.getfield 10, 3) := by decide +kernel
theorem dX5_unstep_46 : decode cX5_unstep 46 = .ok (.invokevirtual 72, 3) := by decide +kernel
theorem dX5_unstep_49 : decode cX5_unstep 49 = .ok (.aload_n 2, 1) := by decide +kernel
theorem dX5_unstep_50 : decode cX5_unstep 50 = .ok (.getfield 68, 3) := by decide +kernel
theorem dX5_unstep_53 : decode cX5_unstep 53 = .ok (.aload_n 2, 1) := by decide +kernel
theorem dX5_unstep_54 : decode cX5_unstep 54 = .ok (.getfield 63, 3) := by decide +kernel
theorem dX5_unstep_57 : decode cX5_unstep 57 = .ok (.iaload, 1) := by decide +kernel
theorem dX5_unstep_58 : decode cX5_unstep 58 = .ok (.ireturn, 1) := by decide +kernel
set_option maxRecDepth 20000 in
theorem ggX5_hint_X5_requireFunction : GoodIn wsX5_hint wsX5_requireFunction := goodIn_ca (goodIn_r _ [6, 7, 8, 1, 9, 95, 96, 97, 98, 99, 100, 101, 102, 103] (by decide +kernel) (by decide +kernel)) (goodIn_sub (fun _ h => List.mem_cons_of_mem _ (List.mem_append_left _ (List.mem_append_right _ h))) (by decide +kernel))
set_option maxRecDepth 20000 in
theorem gX5_hint_X5_requireFunction : GoodIn wsX5_hint (wsV RX5 46 RX5 yX5_requireFunction wsX5_requireFunction) := goodIn_app (goodIn_of _ (by decide +kernel)) ggX5_hint_X5_requireFunction
set_option maxRecDepth 20000 in
theorem ggX5_hint_X5_requireHints : GoodIn wsX5_hint wsX5_requireHints := goodIn_ca (goodIn_r _ [12, 13, 14] (by decide +kernel) (by decide +kernel)) (goodIn_sub (fun _ h => List.mem_cons_of_mem _ (List.mem_append_right _ h)) (by decide +kernel))
set_option maxRecDepth 20000 in
theorem gX5_hint_X5_requireHints : GoodIn wsX5_hint (va_wsS RX5 77 yX5_requireHints wsX5_requireHints) := goodIn_app (goodIn_of _ (by decide +kernel)) ggX5_hint_X5_requireHints
set_option maxRecDepth 20000 in
theorem ggX5_hint_X3_changeHints : GoodIn wsX5_hint wsX3_changeHints := goodIn_r _ [19, 20, 21, 22, 23, 24, 25, 26, 18, 27, 28, 29, 30, 31, 32, 33, 34, 35, 99, 100, 101, 102, 103, 104, 105, 106, 107] (by decide +kernel) (by decide +kernel)
set_option maxRecDepth 20000 in
theorem gX5_hint_X3_changeHints : GoodIn wsX5_hint (wsV RX5 81 RX3 yX3_changeHints wsX3_changeHints) := goodIn_app (goodIn_of _ (by decide +kernel)) ggX5_hint_X3_changeHints
set_option maxRecDepth 20000 in
theorem ggX5_hint_X3_dropUntypable : GoodIn wsX5_hint wsX3_dropUntypable := goodIn_r _ [39, 40, 41, 42, 43, 18, 44, 45, 46, 47, 48, 28, 49, 50, 51, 52, 20, 53, 21, 54, 55, 22, 56, 57, 58, 59, 60, 61, 62, 63, 64, 65, 66, 67, 68, 5, 69, 70, 71, 72, 73, 74, 75, 76, 77, 78, 79, 80, 81, 82, 83, 84, 85, 86, 87, 88, 89, 90, 91, 92, 93, 94, 99, 100, 101, 102, 103, 104, 105, 106, 107, 108, 109, 110] (by decide +kernel) (by decide +kernel)
set_option maxRecDepth 20000 in
theorem gX5_hint_X3_dropUntypable : GoodIn wsX5_hint (wsV RX5 85 RX3 yX3_dropUntypable wsX3_dropUntypable) := goodIn_app (goodIn_of _ (by decide +kernel)) ggX5_hint_X3_dropUntypable
theorem dX5_hint_0 : decode cX5_hint 0 = .ok (.aload_n 0, 1) := by decide +kernel
theorem dX5_hint_1 : decode cX5_hint 1 = .ok (.iload_n 1, 1) := by decide +kernel
theorem dX5_hint_2 : decode cX5_hint 2 = .ok (.invokevirtual 46, 3) := by decide +kernel
theorem dX5_hint_5 : decode cX5_hint 5 = .ok (.iload_n 2, 1) := by decide +kernel
theorem dX5_hint_6 : decode cX5_hint 6 = .ok (.iload_n 3, 1) := by decide +kernel
theorem dX5_hint_7 : decode cX5_hint 7 = .ok (.invokestatic 77, 3) := by decide +kernel
theorem dX5_hint_10 : decode cX5_hint 10 = .ok (.aload_n 0, 1) := by decide +kernel
theorem dX5_hint_11 : decode cX5_hint 11 = .ok (.getfield 10, 3) := by decide +kernel
theorem dX5_hint_14 : decode cX5_hint 14 = .ok (.iload_n 1, 1) := by decide +kernel
theorem dX5_hint_15 : decode cX5_hint 15 = .ok (.iload_n 2, 1) := by decide +kernel
theorem dX5_hint_16 : decode cX5_hint 16 = .ok (.iload_n 3, 1) := by decide +kernel
theorem dX5_hint_17 : decode cX5_hint 17 = .ok (.invokevirtual 81, 3) := by decide +kernel
theorem dX5_hint_20 : decode cX5_hint 20 = .ok (.pop, 1) := by decide +kernel
theorem dX5_hint_21 : decode cX5_hint 21 = .ok (.aload_n 0, 1) := by decide +kernel
theorem dX5_hint_22 : decode cX5_hint 22 = .ok (.getfield 10, 3) := by decide +kernel
theorem dX5_hint_25 : decode cX5_hint 25 = .ok (.invokevirtual 85, 3) := by decide +kernel
theorem dX5_hint_28 : decode cX5_hint 28 = .ok (.ireturn, 1) := by decide +kernel
set_option maxRecDepth 20000 in
theorem ggX5_adopt_X5_requireFunction : GoodIn wsX5_adopt wsX5_requireFunction := goodIn_ca (goodIn_r _ [9, 10, 11, 1, 12, 101, 102, 103, 104, 105, 106, 107, 108, 109] (by decide +kernel) (by decide +kernel)) (goodIn_sub (fun _ h => List.mem_cons_of_mem _ (List.mem_append_right _ h)) (by decide +kernel))
set_option maxRecDepth 20000 in
theorem gX5_adopt_X5_requireFunction : GoodIn wsX5_adopt (wsV RX5 46 RX5 yX5_requireFunction wsX5_requireFunction) := goodIn_app (goodIn_of _ (by decide +kernel)) ggX5_adopt_X5_requireFunction
set_option maxRecDepth 20000 in
theorem ggX5_adopt_X3_guessIn : GoodIn wsX5_adopt wsX3_guessIn := goodIn_r _ [17, 18, 19, 20, 21, 22, 16, 23, 24, 25, 26, 8, 27, 28, 29, 110, 111, 112, 113, 105, 106, 107, 108, 109] (by decide +kernel) (by decide +kernel)
set_option maxRecDepth 20000 in
theorem gX5_adopt_X3_guessIn : GoodIn wsX5_adopt (wsV RX5 92 RX3 yX3_guessIn wsX3_guessIn) := goodIn_app (goodIn_of _ (by decide +kernel)) ggX5_adopt_X3_guessIn
set_option maxRecDepth 20000 in
theorem ggX5_adopt_X3_guessOut : GoodIn wsX5_adopt wsX3_guessOut := goodIn_r _ [33, 18, 19, 34, 35, 36, 16, 37, 24, 38, 26, 8, 27, 39, 40, 110, 111, 112, 113, 105, 106, 107, 108, 109] (by decide +kernel) (by decide +kernel)
set_option maxRecDepth 20000 in
theorem gX5_adopt_X3_guessOut : GoodIn wsX5_adopt (wsV RX5 99 RX3 yX3_guessOut wsX3_guessOut) := goodIn_app (goodIn_of _ (by decide +kernel)) ggX5_adopt_X3_guessOut
set_option maxRecDepth 20000 in
theorem ggX5_adopt_X3_changeHints : GoodIn wsX5_adopt wsX3_changeHints := goodIn_r _ [44, 24, 25, 38, 45, 46, 47, 48, 16, 49, 50, 51, 52, 53, 54, 55, 56, 57, 105, 106, 107, 108, 109, 110, 111, 112, 113] (by decide +kernel) (by decide +kernel)
set_option maxRecDepth 20000 in
theorem gX5_adopt_X3_changeHints : GoodIn wsX5_adopt (wsV RX5 81 RX3 yX3_changeHints wsX3_changeHints) := goodIn_app (goodIn_of _ (by decide +kernel)) ggX5_adopt_X3_changeHints
set_option maxRecDepth 20000 in
theorem ggX5_adopt_X3_dropUntypable : GoodIn wsX5_adopt wsX3_dropUntypable := goodIn_r _ [61, 62, 63, 64, 65, 16, 66, 67, 68, 69, 70, 50, 71, 72, 73, 74, 24, 75, 25, 18, 19, 38, 76, 77, 78, 79, 80, 81, 82, 83, 20, 21, 22, 23, 26, 8, 27, 28, 29, 84, 85, 86, 87, 34, 35, 36, 37, 39, 40, 88, 89, 90, 91, 92, 93, 94, 95, 96, 97, 98, 99, 100, 105, 106, 107, 108, 109, 110, 111, 112, 113, 114, 115, 116] (by decide +kernel) (by decide +kernel)
set_option maxRecDepth 20000 in
theorem gX5_adopt_X3_dropUntypable : GoodIn wsX5_adopt (wsV RX5 85 RX3 yX3_dropUntypable wsX3_dropUntypable) := goodIn_app (goodIn_of _ (by decide +kernel)) ggX5_adopt_X3_dropUntypable
theorem dX5_adopt_0 : decode cX5_adopt 0 = .ok (.aload_n 0, 1) := by decide +kernel
theorem dX5_adopt_1 : decode cX5_adopt 1 = .ok (.iload_n 1, 1) := by decide +kernel
theorem dX5_adopt_2 : decode cX5_adopt 2 = .ok (.invokevirtual 46, 3) := by decide +kernel
theorem dX5_adopt_5 : decode cX5_adopt 5 = .ok (.aload_n 0, 1) := by decide +kernel
theorem dX5_adopt_6 : decode cX5_adopt 6 = .ok (.getfield 10, 3) := by decide +kernel
theorem dX5_adopt_9 : decode cX5_adopt 9 = .ok (.getfield 59, 3) := by decide +kernel
theorem dX5_adopt_12 : decode cX5_adopt 12 = .ok (.iload_n 1, 1) := by decide +kernel
theorem dX5_adopt_13 : decode cX5_adopt 13 = .ok (.aaload, 1) := by decide +kernel
theorem dX5_adopt_14 : decode cX5_adopt 14 = .ok (.astore_n 2, 1) := by decide +kernel
theorem dX5_adopt_15 : decode cX5_adopt 15 = .ok (.aload_n 2, 1) := by decide +kernel
theorem dX5_adopt_16 : decode cX5_adopt 16 = .ok (.getfield 89, 3) := by decide +kernel
theorem dX5_adopt_19 : decode cX5_adopt 19 = .ok (.iconst 3, 1) := by decide +kernel
theorem dX5_adopt_20 : decode cX5_adopt 20 = .ok (.if_icmp .ne 14, 3) := by decide +kernel
theorem dX5_adopt_23 : decode cX5_adopt 23 = .ok (.aload_n 0, 1) := by decide +kernel
theorem dX5_adopt_24 : decode cX5_adopt 24 = .ok (.getfield 10, 3) := by decide +kernel
theorem dX5_adopt_27 : decode cX5_adopt 27 = .ok (.aload_n 2, 1) := by decide +kernel
theorem dX5_adopt_28 : decode cX5_adopt 28 = .ok (.invokevirtual 92, 3) := by decide +kernel
theorem dX5_adopt_31 : decode cX5_adopt 31 = .ok (.goto 7, 3) := by decide +kernel
theorem dX5_adopt_34 : decode cX5_adopt 34 = .ok (.aload_n 2, 1) := by decide +kernel
theorem dX5_adopt_35 : decode cX5_adopt 35 = .ok (.getfield 89, 3) := by decide +kernel
theorem dX5_adopt_38 : decode cX5_adopt 38 = .ok (.istore_n 3, 1) := by decide +kernel
theorem dX5_adopt_39 : decode cX5_adopt 39 = .ok (.aload_n 2, 1) := by decide +kernel
theorem dX5_adopt_40 : decode cX5_adopt 40 = .ok (.getfield 96, 3) := by decide +kernel
theorem dX5_adopt_43 : decode cX5_adopt 43 = .ok (.iconst 3, 1) := by decide +kernel
theorem dX5_adopt_44 : decode cX5_adopt 44 = .ok (.if_icmp .ne 14, 3) := by decide +kernel
theorem dX5_adopt_47 : decode cX5_adopt 47 = .ok (.aload_n 0, 1) := by decide +kernel
theorem dX5_adopt_48 : decode cX5_adopt 48 = .ok (.getfield 10, 3) := by decide +kernel
theorem dX5_adopt_51 : decode cX5_adopt 51 = .ok (.aload_n 2, 1) := by decide +kernel
theorem dX5_adopt_52 : decode cX5_adopt 52 = .ok (.invokevirtual 99, 3) := by decide +kernel
theorem dX5_adopt_55 : decode cX5_adopt 55 = .ok (.goto 7, 3) := by decide +kernel
theorem dX5_adopt_58 : decode cX5_adopt 58 = .ok (.aload_n 2, 1) := by decide +kernel
theorem dX5_adopt_59 : decode cX5_adopt 59 = .ok (.getfield 96, 3) := by decide +kernel
theorem dX5_adopt_62 : decode cX5_adopt 62 = .ok (.istore 4, 2) := by decide +kernel
theorem dX5_adopt_64 : decode cX5_adopt 64 = .ok (.aload_n 0, 1) := by decide +kernel
theorem dX5_adopt_65 : decode cX5_adopt 65 = .ok (.getfield 10, 3) := by decide +kernel
theorem dX5_adopt_68 : decode cX5_adopt 68 = .ok (.iload_n 1, 1) := by decide +kernel
theorem dX5_adopt_69 : decode cX5_adopt 69 = .ok (.iload_n 3, 1) := by decide +kernel
theorem dX5_adopt_70 : decode cX5_adopt 70 = .ok (.iload 4, 2) := by decide +kernel
theorem dX5_adopt_72 : decode cX5_adopt 72 = .ok (.invokevirtual 81, 3) := by decide +kernel
theorem dX5_adopt_75 : decode cX5_adopt 75 = .ok (.istore 5, 2) := by decide +kernel
theorem dX5_adopt_77 : decode cX5_adopt 77 = .ok (.aload_n 0, 1) := by decide +kernel
theorem dX5_adopt_78 : decode cX5_adopt 78 = .ok (.getfield 10, 3) := by decide +kernel
theorem dX5_adopt_81 : decode cX5_adopt 81 = .ok (.invokevirtual 85, 3) := by decide +kernel
theorem dX5_adopt_84 : decode cX5_adopt 84 = .ok (.pop, 1) := by decide +kernel
theorem dX5_adopt_85 : decode cX5_adopt 85 = .ok (.iload 5, 2) := by decide +kernel
theorem dX5_adopt_87 : decode cX5_adopt 87 = .ok (.ireturn, 1) := by decide +kernel
set_option maxRecDepth 20000 in
theorem ggX5_type_X5_requireFunction : GoodIn wsX5_type wsX5_requireFunction := goodIn_ca (goodIn_r _ [9, 10, 11, 3, 12, 63, 64, 65, 66, 67, 68, 69, 70, 71] (by decide +kernel) (by decide +kernel)) (goodIn_sub (fun _ h => List.mem_cons_of_mem _ (List.mem_append_right _ h)) (by decide +kernel))
set_option maxRecDepth 20000 in
theorem gX5_type_X5_requireFunction : GoodIn wsX5_type (wsV RX5 46 RX5 yX5_requireFunction wsX5_requireFunction) := goodIn_app (goodIn_of _ (by decide +kernel)) ggX5_type_X5_requireFunction
set_option maxRecDepth 20000 in
theorem ggX5_type_X3_checked : GoodIn wsX5_type wsX3_checked := goodIn_r _ [17, 18, 19, 20, 21, 22, 23, 24, 25, 26, 27, 28, 29, 30, 31, 32, 33, 34, 16, 35, 36, 8, 37, 38, 39, 40, 41, 42, 43, 44, 45, 46, 47, 48, 49, 67, 68, 69, 70, 71, 72, 73, 74, 75, 76, 77, 78] (by decide +kernel) (by decide +kernel)
set_option maxRecDepth 20000 in
theorem gX5_type_X3_checked : GoodIn wsX5_type (wsV RX5 102 RX3 yX3_checked wsX3_checked) := goodIn_app (goodIn_of _ (by decide +kernel)) ggX5_type_X3_checked
set_option maxRecDepth 20000 in
theorem ggX5_type_X1_areNone : GoodIn wsX5_type wsX1_areNone := goodIn_r _ [53, 29, 31, 76, 77, 78] (by decide +kernel) (by decide +kernel)
set_option maxRecDepth 20000 in
theorem gX5_type_X1_areNone : GoodIn wsX5_type (wsV RX5 106 RX1 yX1_areNone wsX1_areNone) := goodIn_app (goodIn_of _ (by decide +kernel)) ggX5_type_X1_areNone
set_option maxRecDepth 20000 in
theorem ggX5_type_X5_has : GoodIn wsX5_type wsX5_has := goodIn_r _ [56] (by decide +kernel) (by decide +kernel)
set_option maxRecDepth 20000 in
theorem gX5_type_X5_has : GoodIn wsX5_type (va_wsS RX5 117 yX5_has wsX5_has) := goodIn_app (goodIn_of _ (by decide +kernel)) ggX5_type_X5_has
set_option maxRecDepth 20000 in
theorem ggX5_type_X5_with : GoodIn wsX5_type wsX5_with := goodIn_r _ [59] (by decide +kernel) (by decide +kernel)
set_option maxRecDepth 20000 in
theorem gX5_type_X5_with : GoodIn wsX5_type (va_wsS RX5 121 yX5_with wsX5_with) := goodIn_app (goodIn_of _ (by decide +kernel)) ggX5_type_X5_with
set_option maxRecDepth 20000 in
theorem ggX5_type_X5_without : GoodIn wsX5_type wsX5_without := goodIn_r _ [62] (by decide +kernel) (by decide +kernel)
set_option maxRecDepth 20000 in
theorem gX5_type_X5_without : GoodIn wsX5_type (va_wsS RX5 125 yX5_without wsX5_without) := goodIn_app (goodIn_of _ (by decide +kernel)) ggX5_type_X5_without
theorem dX5_type_0 : decode cX5_type 0 = .ok (.aload_n 0, 1) := by decide +kernel
theorem dX5_type_1 : decode cX5_type 1 = .ok (.iload_n 1, 1) := by decide +kernel
theorem dX5_type_2 : decode cX5_type 2 = .ok (.invokevirtual 46, 3) := by decide +kernel
theorem dX5_type_5 : decode cX5_type 5 = .ok (.iload_n 2, 1) := by decide +kernel
theorem dX5_type_6 : decode cX5_type 6 = .ok (.ifCond .eq 27, 3) := by decide +kernel
theorem dX5_type_9 : decode cX5_type 9 = .ok (.aload_n 0, 1) := by decide +kernel
theorem dX5_type_10 : decode cX5_type 10 = .ok (.getfield 10, 3) := by decide +kernel
theorem dX5_type_13 : decode cX5_type 13 = .ok (.iload_n 1, 1) := by decide +kernel
theorem dX5_type_14 : decode cX5_type 14 = .ok (.invokevirtual 102, 3) := by decide +kernel
theorem dX5_type_17 : decode cX5_type 17 = .ok (.invokevirtual 106, 3) := by decide +kernel
theorem dX5_type_20 : decode cX5_type 20 = .ok (.ifCond .ne 13, 3) := by decide +kernel
theorem dX5_type_23 : decode cX5_type 23 = .ok (.new 39, 3) := by decide +kernel
theorem dX5_type_26 : decode cX5_type 26 = .ok (.dup, 1) := by decide +kernel
theorem dX5_type_27 : decode cX5_type 27 = .ok (.ldc 112, 2) := by decide +kernel
theorem dX5_type_29 : decode cX5_type 29 = .ok (.invokespecial 43, 3) := by decide +kernel
theorem dX5_type_32 : decode cX5_type 32 = .ok (.athrow, 1) := by decide +kernel
theorem dX5_type_33 : decode cX5_type 33 = .ok (.aload_n 0, 1) := by decide +kernel
theorem dX5_type_34 : decode cX5_type 34 = .ok (.getfield 10, 3) := by decide +kernel
theorem dX5_type_37 : decode cX5_type 37 = .ok (.getfield 114, 3) := by decide +kernel
theorem dX5_type_40 : decode cX5_type 40 = .ok (.iload_n 1, 1) := by decide +kernel
theorem dX5_type_41 : decode cX5_type 41 = .ok (.invokestatic 117, 3) := by decide +kernel
theorem dX5_type_44 : decode cX5_type 44 = .ok (.istore_n 3, 1) := by decide +kernel
theorem dX5_type_45 : decode cX5_type 45 = .ok (.aload_n 0, 1) := by decide +kernel
theorem dX5_type_46 : decode cX5_type 46 = .ok (.getfield 10, 3) := by decide +kernel
theorem dX5_type_49 : decode cX5_type 49 = .ok (.iload_n 2, 1) := by decide +kernel
theorem dX5_type_50 : decode cX5_type 50 = .ok (.ifCond .eq 17, 3) := by decide +kernel
theorem dX5_type_53 : decode cX5_type 53 = .ok (.aload_n 0, 1) := by decide +kernel
theorem dX5_type_54 : decode cX5_type 54 = .ok (.getfield 10, 3) := by decide +kernel
theorem dX5_type_57 : decode cX5_type 57 = .ok (.getfield 114, 3) := by decide +kernel
theorem dX5_type_60 : decode cX5_type 60 = .ok (.iload_n 1, 1) := by decide +kernel
theorem dX5_type_61 : decode cX5_type 61 = .ok (.invokestatic 121, 3) := by decide +kernel
theorem dX5_type_64 : decode cX5_type 64 = .ok (.goto 14, 3) := by decide +kernel
theorem dX5_type_67 : decode cX5_type 67 = .ok (.aload_n 0, 1) := by decide +kernel
theorem dX5_type_68 : decode cX5_type 68 = .ok (.getfield 10, 3) := by decide +kernel
theorem dX5_type_71 : decode cX5_type 71 = .ok (.getfield 114, 3) := by decide +kernel
theorem dX5_type_74 : decode cX5_type 74 = .ok (.iload_n 1, 1) := by decide +kernel
theorem dX5_type_75 : decode cX5_type 75 = .ok (.invokestatic 125, 3) := by decide +kernel
theorem dX5_type_78 : decode cX5_type 78 = .ok (.putfield 114, 3) := by decide +kernel
theorem dX5_type_81 : decode cX5_type 81 = .ok (.iload_n 3, 1) := by decide +kernel
theorem dX5_type_82 : decode cX5_type 82 = .ok (.ireturn, 1) := by decide +kernel
set_option maxRecDepth 20000 in
theorem ggX5_stepAt_X5_requireFunction : GoodIn wsX5_stepAt wsX5_requireFunction := goodIn_ca (goodIn_r _ [11, 1, 2, 3, 12, 13, 14, 15, 16, 17, 18, 19, 20, 21] (by decide +kernel) (by decide +kernel)) (goodIn_sub (fun _ h => List.mem_cons_of_mem _ (List.mem_append_right _ h)) (by decide +kernel))
set_option maxRecDepth 20000 in
theorem gX5_stepAt_X5_requireFunction : GoodIn wsX5_stepAt (wsV RX5 46 RX5 yX5_requireFunction wsX5_requireFunction) := goodIn_app (goodIn_of _ (by decide +kernel)) ggX5_stepAt_X5_requireFunction
theorem dX5_stepAt_0 : decode cX5_stepAt 0 = .ok (.aload_n 0, 1) := by decide +kernel
theorem dX5_stepAt_1 : decode cX5_stepAt 1 = .ok (.iload_n 1, 1) := by decide +kernel
theorem dX5_stepAt_2 : decode cX5_stepAt 2 = .ok (.invokevirtual 46, 3) := by decide +kernel
theorem dX5_stepAt_5 : decode cX5_stepAt 5 = .ok (.aload_n 0, 1) := by decide +kernel
theorem dX5_stepAt_6 : decode cX5_stepAt 6 = .ok (.getfield 10, 3) := by decide +kernel
theorem dX5_stepAt_9 : decode cX5_stepAt 9 = .ok (.getfield 59, 3) := by decide +kernel
theorem dX5_stepAt_12 : decode cX5_stepAt 12 = .ok (.iload_n 1, 1) := by decide +kernel
theorem dX5_stepAt_13 : decode cX5_stepAt 13 = .ok (.aaload, 1) := by decide +kernel
theorem dX5_stepAt_14 : decode cX5_stepAt 14 = .ok (.astore_n 3, 1) := by decide +kernel
theorem dX5_stepAt_15 : decode cX5_stepAt 15 = .ok (.iload_n 2, 1) := by decide +kernel
theorem dX5_stepAt_16 : decode cX5_stepAt 16 = .ok (.ifCond .lt 11, 3) := by decide +kernel
theorem dX5_stepAt_19 : decode cX5_stepAt 19 = .ok (.iload_n 2, 1) := by decide +kernel
theorem dX5_stepAt_20 : decode cX5_stepAt 20 = .ok (.aload_n 3, 1) := by decide +kernel
theorem dX5_stepAt_21 : decode cX5_stepAt 21 = .ok (.getfield 63, 3) := by decide +kernel
theorem dX5_stepAt_24 : decode cX5_stepAt 24 = .ok (.if_icmp .lt 13, 3) := by decide +kernel
theorem dX5_stepAt_27 : decode cX5_stepAt 27 = .ok (.new 128, 3) := by decide +kernel
theorem dX5_stepAt_30 : decode cX5_stepAt 30 = .ok (.dup, 1) := by decide +kernel
theorem dX5_stepAt_31 : decode cX5_stepAt 31 = .ok (.ldc 130, 2) := by decide +kernel
theorem dX5_stepAt_33 : decode cX5_stepAt 33 = .ok (.invokespecial 132, 3) := by decide +kernel
theorem dX5_stepAt_36 : decode cX5_stepAt 36 = .ok (.athrow, 1) := by decide +kernel
theorem dX5_stepAt_37 : decode cX5_stepAt 37 = .ok (.aload_n 3, 1) := by decide +kernel
theorem dX5_stepAt_38 : decode cX5_stepAt 38 = .ok (.getfield 68, 3) := by decide +kernel
theorem dX5_stepAt_41 : decode cX5_stepAt 41 = .ok (.iload_n 2, 1) := by decide +kernel
theorem dX5_stepAt_42 : decode cX5_stepAt 42 = .ok (.iaload, 1) := by decide +kernel
theorem dX5_stepAt_43 : decode cX5_stepAt 43 = .ok (.ireturn, 1) := by decide +kernel
set_option maxRecDepth 20000 in
theorem ggX5_ofFunction_X5_requireFunction : GoodIn wsX5_ofFunction wsX5_requireFunction := goodIn_ca (goodIn_r _ [15, 16, 17, 1, 18, 90, 91, 92, 93, 94, 95, 96, 97, 98] (by decide +kernel) (by decide +kernel)) (goodIn_sub (fun _ h => List.mem_cons_of_mem _ (List.mem_append_left _ (List.mem_append_right _ h))) (by decide +kernel))
set_option maxRecDepth 20000 in
theorem gX5_ofFunction_X5_requireFunction : GoodIn wsX5_ofFunction (wsV RX5 46 RX5 yX5_requireFunction wsX5_requireFunction) := goodIn_app (goodIn_of _ (by decide +kernel)) ggX5_ofFunction_X5_requireFunction
set_option maxRecDepth 20000 in
theorem ggX5_ofFunction_X5_requireWhat : GoodIn wsX5_ofFunction wsX5_requireWhat := goodIn_ca (goodIn_r _ [21, 22, 23] (by decide +kernel) (by decide +kernel)) (goodIn_sub (fun _ h => List.mem_cons_of_mem _ (List.mem_append_right _ h)) (by decide +kernel))
set_option maxRecDepth 20000 in
theorem gX5_ofFunction_X5_requireWhat : GoodIn wsX5_ofFunction (va_wsS RX5 133 yX5_requireWhat wsX5_requireWhat) := goodIn_app (goodIn_of _ (by decide +kernel)) ggX5_ofFunction_X5_requireWhat
set_option maxRecDepth 20000 in
theorem ggX5_ofFunction_X5_has : GoodIn wsX5_ofFunction wsX5_has := goodIn_r _ [26] (by decide +kernel) (by decide +kernel)
set_option maxRecDepth 20000 in
theorem gX5_ofFunction_X5_has : GoodIn wsX5_ofFunction (va_wsS RX5 117 yX5_has wsX5_has) := goodIn_app (goodIn_of _ (by decide +kernel)) ggX5_ofFunction_X5_has
set_option maxRecDepth 20000 in
theorem ggX5_ofFunction_X3_checked : GoodIn wsX5_ofFunction wsX3_checked := goodIn_r _ [31, 32, 33, 34, 35, 36, 37, 38, 39, 40, 41, 42, 43, 44, 45, 46, 47, 48, 30, 49, 50, 14, 51, 52, 53, 54, 55, 56, 57, 58, 59, 60, 61, 62, 63, 94, 95, 96, 97, 98, 99, 100, 101, 102, 103, 104, 105] (by decide +kernel) (by decide +kernel)
set_option maxRecDepth 20000 in
theorem gX5_ofFunction_X3_checked : GoodIn wsX5_ofFunction (wsV RX5 102 RX3 yX3_checked wsX3_checked) := goodIn_app (goodIn_of _ (by decide +kernel)) ggX5_ofFunction_X3_checked
set_option maxRecDepth 20000 in
theorem ggX5_ofFunction_X3_guessIn : GoodIn wsX5_ofFunction wsX3_guessIn := goodIn_r _ [67, 35, 36, 46, 47, 48, 30, 49, 32, 34, 50, 14, 51, 52, 53, 99, 100, 101, 102, 94, 95, 96, 97, 98] (by decide +kernel) (by decide +kernel)
set_option maxRecDepth 20000 in
theorem gX5_ofFunction_X3_guessIn : GoodIn wsX5_ofFunction (wsV RX5 92 RX3 yX3_guessIn wsX3_guessIn) := goodIn_app (goodIn_of _ (by decide +kernel)) ggX5_ofFunction_X3_guessIn
set_option maxRecDepth 20000 in
theorem ggX5_ofFunction_X3_guessOut : GoodIn wsX5_ofFunction wsX3_guessOut := goodIn_r _ [71, 35, 36, 58, 59, 60, 30, 61, 32, 37, 50, 14, 51, 62, 63, 99, 100, 101, 102, 94, 95, 96, 97, 98] (by decide +kernel) (by decide +kernel)
set_option maxRecDepth 20000 in
theorem gX5_ofFunction_X3_guessOut : GoodIn wsX5_ofFunction (wsV RX5 99 RX3 yX3_guessOut wsX3_guessOut) := goodIn_app (goodIn_of _ (by decide +kernel)) ggX5_ofFunction_X3_guessOut
set_option maxRecDepth 20000 in
theorem ggX5_ofFunction_X3_callersOf : GoodIn wsX5_ofFunction wsX3_callersOf := goodIn_r _ [75, 76, 32, 77, 78, 79, 80, 81, 82, 83, 94, 95, 96, 97, 98, 99, 100, 101, 102] (by decide +kernel) (by decide +kernel)
set_option maxRecDepth 20000 in
theorem gX5_ofFunction_X3_callersOf : GoodIn wsX5_ofFunction (wsV RX5 145 RX3 yX3_callersOf wsX3_callersOf) := goodIn_app (goodIn_of _ (by decide +kernel)) ggX5_ofFunction_X3_callersOf
set_option maxRecDepth 20000 in
theorem ggX5_ofFunction_X0_timesCalled : GoodIn wsX5_ofFunction wsX0_timesCalled := goodIn_r _ [88, 89, 106, 107, 108, 109, 110, 111] (by decide +kernel) (by decide +kernel)
set_option maxRecDepth 20000 in
theorem gX5_ofFunction_X0_timesCalled : GoodIn wsX5_ofFunction (wsV RX5 149 RX0 yX0_timesCalled wsX0_timesCalled) := goodIn_app (goodIn_of _ (by decide +kernel)) ggX5_ofFunction_X0_timesCalled
theorem dX5_ofFunction_0 : decode cX5_ofFunction 0 = .ok (.aload_n 0, 1) := by decide +kernel
