theorem inX9 : ∀ w ∈ wsX90, w ∈ lw_tbl := by decide +kernel
theorem inJx145de : ∀ w ∈ wsJx145de0, w ∈ lw_tbl := by decide +kernel
theorem inJ6 : ∀ w ∈ wsJ60, w ∈ lw_tbl := by decide +kernel
theorem inJ9 : ∀ w ∈ wsJ90, w ∈ lw_tbl := by decide +kernel
theorem inJ0 : ∀ w ∈ wsJ00, w ∈ lw_tbl := by decide +kernel
set_option maxRecDepth 20000 in
theorem ggX0_init_X5_newCallTable : GoodIn wsX0_init wsX5_newCallTable := goodIn_r _ [10, 11, 5] (by decide +kernel) (by decide +kernel)
set_option maxRecDepth 20000 in
theorem gX0_init_X5_newCallTable_n9 : GoodIn wsX0_init (wsX5_newCallTable) := ggX0_init_X5_newCallTable
theorem dX0_init_0 : decode cX0_init 0 = .ok (.aload_n 0, 1) := by decide +kernel
theorem dX0_init_1 : decode cX0_init 1 = .ok (.invokespecial 3, 3) := by decide +kernel
theorem dX0_init_4 : decode cX0_init 4 = .ok (.aload_n 0, 1) := by decide +kernel
theorem dX0_init_5 : decode cX0_init 5 = .ok (.invokestatic 9, 3) := by decide +kernel
theorem dX0_init_8 : decode cX0_init 8 = .ok (.putfield 13, 3) := by decide +kernel
theorem dX0_init_11 : decode cX0_init 11 = .ok (.aload_n 0, 1) := by decide +kernel
theorem dX0_init_12 : decode cX0_init 12 = .ok (.bipush 10, 2) := by decide +kernel
theorem dX0_init_14 : decode cX0_init 14 = .ok (.newarray .int, 2) := by decide +kernel
theorem dX0_init_16 : decode cX0_init 16 = .ok (.putfield 19, 3) := by decide +kernel
theorem dX0_init_19 : decode cX0_init 19 = .ok (.aload_n 0, 1) := by decide +kernel
theorem dX0_init_20 : decode cX0_init 20 = .ok (.bipush 8, 2) := by decide +kernel
theorem dX0_init_22 : decode cX0_init 22 = .ok (.newarray .int, 2) := by decide +kernel
theorem dX0_init_24 : decode cX0_init 24 = .ok (.putfield 23, 3) := by decide +kernel
theorem dX0_init_27 : decode cX0_init 27 = .ok (.return_, 1) := by decide +kernel
set_option maxRecDepth 20000 in
theorem ggX0_enter_X4_cost : GoodIn wsX0_enter wsX4_cost := goodIn_r _ [11, 12, 13, 37, 38, 39, 40, 41, 42, 43, 44, 45, 46, 47, 48, 49] (by decide +kernel) (by decide +kernel)
set_option maxRecDepth 20000 in
theorem gX0_enter_X4_cost : GoodIn wsX0_enter (wsV RX0 44 RX4 yX4_cost wsX4_cost) := goodIn_app (goodIn_of _ (by decide +kernel)) ggX0_enter_X4_cost
set_option maxRecDepth 20000 in
theorem ggX0_enter_X0_addCalls : GoodIn wsX0_enter wsX0_addCalls := goodIn_r _ [18, 19, 20, 31, 32, 33, 34, 35, 36, 37, 38, 39, 40, 41, 42, 43, 44, 45, 46, 47, 48, 49] (by decide +kernel) (by decide +kernel)
set_option maxRecDepth 20000 in
theorem gX0_enter_X0_addCalls : GoodIn wsX0_enter (wsV RX0 48 RX0 yX0_addCalls wsX0_addCalls) := goodIn_app (goodIn_of _ (by decide +kernel)) ggX0_enter_X0_addCalls
set_option maxRecDepth 20000 in
theorem ggX0_enter_X0_keepLatest : GoodIn wsX0_enter wsX0_keepLatest := goodIn_r _ [24, 2, 25, 4, 26, 27, 28, 29, 30, 7, 8, 9, 10, 11, 12, 13, 37, 38, 39, 40, 41, 42, 43, 44, 45, 46, 47, 48, 49, 31, 32, 33, 34, 35, 36] (by decide +kernel) (by decide +kernel)
set_option maxRecDepth 20000 in
theorem gX0_enter_X0_keepLatest : GoodIn wsX0_enter (wsV RX0 52 RX0 yX0_keepLatest wsX0_keepLatest) := goodIn_app (goodIn_of _ (by decide +kernel)) ggX0_enter_X0_keepLatest
theorem dX0_enter_0 : decode cX0_enter 0 = .ok (.aload_n 0, 1) := by decide +kernel
theorem dX0_enter_1 : decode cX0_enter 1 = .ok (.dup, 1) := by decide +kernel
theorem dX0_enter_2 : decode cX0_enter 2 = .ok (.getfield 26, 3) := by decide +kernel
theorem dX0_enter_5 : decode cX0_enter 5 = .ok (.iconst 1, 1) := by decide +kernel
theorem dX0_enter_6 : decode cX0_enter 6 = .ok (.iadd, 1) := by decide +kernel
theorem dX0_enter_7 : decode cX0_enter 7 = .ok (.putfield 26, 3) := by decide +kernel
theorem dX0_enter_10 : decode cX0_enter 10 = .ok (.aload_n 1, 1) := by decide +kernel
theorem dX0_enter_11 : decode cX0_enter 11 = .ok (.getfield 30, 3) := by decide +kernel
theorem dX0_enter_14 : decode cX0_enter 14 = .ok (.ifCond .eq 13, 3) := by decide +kernel
theorem dX0_enter_17 : decode cX0_enter 17 = .ok (.aload_n 0, 1) := by decide +kernel
theorem dX0_enter_18 : decode cX0_enter 18 = .ok (.dup, 1) := by decide +kernel
theorem dX0_enter_19 : decode cX0_enter 19 = .ok (.getfield 35, 3) := by decide +kernel
theorem dX0_enter_22 : decode cX0_enter 22 = .ok (.iconst 1, 1) := by decide +kernel
theorem dX0_enter_23 : decode cX0_enter 23 = .ok (.iadd, 1) := by decide +kernel
theorem dX0_enter_24 : decode cX0_enter 24 = .ok (.putfield 35, 3) := by decide +kernel
theorem dX0_enter_27 : decode cX0_enter 27 = .ok (.aload_n 1, 1) := by decide +kernel
theorem dX0_enter_28 : decode cX0_enter 28 = .ok (.getfield 38, 3) := by decide +kernel
theorem dX0_enter_31 : decode cX0_enter 31 = .ok (.iconst (-1), 1) := by decide +kernel
theorem dX0_enter_32 : decode cX0_enter 32 = .ok (.if_icmp .eq 16, 3) := by decide +kernel
theorem dX0_enter_35 : decode cX0_enter 35 = .ok (.aload_n 0, 1) := by decide +kernel
theorem dX0_enter_36 : decode cX0_enter 36 = .ok (.getfield 19, 3) := by decide +kernel
theorem dX0_enter_39 : decode cX0_enter 39 = .ok (.aload_n 1, 1) := by decide +kernel
theorem dX0_enter_40 : decode cX0_enter 40 = .ok (.getfield 38, 3) := by decide +kernel
theorem dX0_enter_43 : decode cX0_enter 43 = .ok (.dup2, 1) := by decide +kernel
theorem dX0_enter_44 : decode cX0_enter 44 = .ok (.iaload, 1) := by decide +kernel
theorem dX0_enter_45 : decode cX0_enter 45 = .ok (.iconst 1, 1) := by decide +kernel
theorem dX0_enter_46 : decode cX0_enter 46 = .ok (.iadd, 1) := by decide +kernel
theorem dX0_enter_47 : decode cX0_enter 47 = .ok (.iastore, 1) := by decide +kernel
theorem dX0_enter_48 : decode cX0_enter 48 = .ok (.aload_n 0, 1) := by decide +kernel
theorem dX0_enter_49 : decode cX0_enter 49 = .ok (.dup, 1) := by decide +kernel
theorem dX0_enter_50 : decode cX0_enter 50 = .ok (.getfield 41, 3) := by decide +kernel
theorem dX0_enter_53 : decode cX0_enter 53 = .ok (.aload_n 1, 1) := by decide +kernel
theorem dX0_enter_54 : decode cX0_enter 54 = .ok (.invokevirtual 44, 3) := by decide +kernel
theorem dX0_enter_57 : decode cX0_enter 57 = .ok (.iadd, 1) := by decide +kernel
theorem dX0_enter_58 : decode cX0_enter 58 = .ok (.putfield 41, 3) := by decide +kernel
theorem dX0_enter_61 : decode cX0_enter 61 = .ok (.aload_n 0, 1) := by decide +kernel
theorem dX0_enter_62 : decode cX0_enter 62 = .ok (.aload_n 1, 1) := by decide +kernel
theorem dX0_enter_63 : decode cX0_enter 63 = .ok (.invokevirtual 48, 3) := by decide +kernel
theorem dX0_enter_66 : decode cX0_enter 66 = .ok (.aload_n 0, 1) := by decide +kernel
theorem dX0_enter_67 : decode cX0_enter 67 = .ok (.aload_n 1, 1) := by decide +kernel
theorem dX0_enter_68 : decode cX0_enter 68 = .ok (.invokevirtual 52, 3) := by decide +kernel
theorem dX0_enter_71 : decode cX0_enter 71 = .ok (.return_, 1) := by decide +kernel
theorem dX0_addCalls_0 : decode cX0_addCalls 0 = .ok (.iconst 0, 1) := by decide +kernel
theorem dX0_addCalls_1 : decode cX0_addCalls 1 = .ok (.istore_n 2, 1) := by decide +kernel
theorem dX0_addCalls_2 : decode cX0_addCalls 2 = .ok (.iload_n 2, 1) := by decide +kernel
theorem dX0_addCalls_3 : decode cX0_addCalls 3 = .ok (.bipush 10, 2) := by decide +kernel
theorem dX0_addCalls_5 : decode cX0_addCalls 5 = .ok (.if_icmp .gt 42, 3) := by decide +kernel
theorem dX0_addCalls_8 : decode cX0_addCalls 8 = .ok (.iconst 0, 1) := by decide +kernel
theorem dX0_addCalls_9 : decode cX0_addCalls 9 = .ok (.istore_n 3, 1) := by decide +kernel
theorem dX0_addCalls_10 : decode cX0_addCalls 10 = .ok (.iload_n 3, 1) := by decide +kernel
theorem dX0_addCalls_11 : decode cX0_addCalls 11 = .ok (.bipush 10, 2) := by decide +kernel
theorem dX0_addCalls_13 : decode cX0_addCalls 13 = .ok (.if_icmp .ge 28, 3) := by decide +kernel
theorem dX0_addCalls_16 : decode cX0_addCalls 16 = .ok (.aload_n 0, 1) := by decide +kernel
theorem dX0_addCalls_17 : decode cX0_addCalls 17 = .ok (.getfield 13, 3) := by decide +kernel
theorem dX0_addCalls_20 : decode cX0_addCalls 20 = .ok (.iload_n 2, 1) := by decide +kernel
theorem dX0_addCalls_21 : decode cX0_addCalls 21 = .ok (.aaload, 1) := by decide +kernel
theorem dX0_addCalls_22 : decode cX0_addCalls 22 = .ok (.iload_n 3, 1) := by decide +kernel
theorem dX0_addCalls_23 : decode cX0_addCalls 23 = .ok (.dup2, 1) := by decide +kernel
theorem dX0_addCalls_24 : decode cX0_addCalls 24 = .ok (.iaload, 1) := by decide +kernel
theorem dX0_addCalls_25 : decode cX0_addCalls 25 = .ok (.aload_n 1, 1) := by decide +kernel
theorem dX0_addCalls_26 : decode cX0_addCalls 26 = .ok (.getfield 55, 3) := by decide +kernel
theorem dX0_addCalls_29 : decode cX0_addCalls 29 = .ok (.iload_n 2, 1) := by decide +kernel
theorem dX0_addCalls_30 : decode cX0_addCalls 30 = .ok (.aaload, 1) := by decide +kernel
theorem dX0_addCalls_31 : decode cX0_addCalls 31 = .ok (.iload_n 3, 1) := by decide +kernel
theorem dX0_addCalls_32 : decode cX0_addCalls 32 = .ok (.iaload, 1) := by decide +kernel
theorem dX0_addCalls_33 : decode cX0_addCalls 33 = .ok (.iadd, 1) := by decide +kernel
theorem dX0_addCalls_34 : decode cX0_addCalls 34 = .ok (.iastore, 1) := by decide +kernel
theorem dX0_addCalls_35 : decode cX0_addCalls 35 = .ok (.iinc 3 1, 3) := by decide +kernel
theorem dX0_addCalls_38 : decode cX0_addCalls 38 = .ok (.goto (-28), 3) := by decide +kernel
theorem dX0_addCalls_41 : decode cX0_addCalls 41 = .ok (.iinc 2 1, 3) := by decide +kernel
theorem dX0_addCalls_44 : decode cX0_addCalls 44 = .ok (.goto (-42), 3) := by decide +kernel
theorem dX0_addCalls_47 : decode cX0_addCalls 47 = .ok (.return_, 1) := by decide +kernel
set_option maxRecDepth 20000 in
theorem ggX0_keepLatest_X4_cost : GoodIn wsX0_keepLatest wsX4_cost := goodIn_r _ [13, 14, 15, 16, 17, 18, 19, 20, 21, 22, 23, 24, 25, 26, 27, 28] (by decide +kernel) (by decide +kernel)
set_option maxRecDepth 20000 in
theorem gX0_keepLatest_X4_cost : GoodIn wsX0_keepLatest (wsV RX0 44 RX4 yX4_cost wsX4_cost) := goodIn_app (goodIn_of _ (by decide +kernel)) ggX0_keepLatest_X4_cost
theorem dX0_keepLatest_0 : decode cX0_keepLatest 0 = .ok (.aload_n 1, 1) := by decide +kernel
theorem dX0_keepLatest_1 : decode cX0_keepLatest 1 = .ok (.getfield 30, 3) := by decide +kernel
theorem dX0_keepLatest_4 : decode cX0_keepLatest 4 = .ok (.ifCond .eq 7, 3) := by decide +kernel
theorem dX0_keepLatest_7 : decode cX0_keepLatest 7 = .ok (.iconst 1, 1) := by decide +kernel
theorem dX0_keepLatest_8 : decode cX0_keepLatest 8 = .ok (.goto 4, 3) := by decide +kernel
theorem dX0_keepLatest_11 : decode cX0_keepLatest 11 = .ok (.iconst 0, 1) := by decide +kernel
theorem dX0_keepLatest_12 : decode cX0_keepLatest 12 = .ok (.istore_n 2, 1) := by decide +kernel
theorem dX0_keepLatest_13 : decode cX0_keepLatest 13 = .ok (.aload_n 0, 1) := by decide +kernel
theorem dX0_keepLatest_14 : decode cX0_keepLatest 14 = .ok (.getfield 23, 3) := by decide +kernel
theorem dX0_keepLatest_17 : decode cX0_keepLatest 17 = .ok (.iconst 0, 1) := by decide +kernel
theorem dX0_keepLatest_18 : decode cX0_keepLatest 18 = .ok (.aload_n 1, 1) := by decide +kernel
theorem dX0_keepLatest_19 : decode cX0_keepLatest 19 = .ok (.getfield 30, 3) := by decide +kernel
theorem dX0_keepLatest_22 : decode cX0_keepLatest 22 = .ok (.iastore, 1) := by decide +kernel
theorem dX0_keepLatest_23 : decode cX0_keepLatest 23 = .ok (.aload_n 0, 1) := by decide +kernel
theorem dX0_keepLatest_24 : decode cX0_keepLatest 24 = .ok (.getfield 23, 3) := by decide +kernel
theorem dX0_keepLatest_27 : decode cX0_keepLatest 27 = .ok (.iconst 1, 1) := by decide +kernel
theorem dX0_keepLatest_28 : decode cX0_keepLatest 28 = .ok (.aload_n 1, 1) := by decide +kernel
theorem dX0_keepLatest_29 : decode cX0_keepLatest 29 = .ok (.getfield 38, 3) := by decide +kernel
theorem dX0_keepLatest_32 : decode cX0_keepLatest 32 = .ok (.iastore, 1) := by decide +kernel
theorem dX0_keepLatest_33 : decode cX0_keepLatest 33 = .ok (.aload_n 0, 1) := by decide +kernel
theorem dX0_keepLatest_34 : decode cX0_keepLatest 34 = .ok (.getfield 23, 3) := by decide +kernel
theorem dX0_keepLatest_37 : decode cX0_keepLatest 37 = .ok (.iconst 2, 1) := by decide +kernel
theorem dX0_keepLatest_38 : decode cX0_keepLatest 38 = .ok (.aload_n 1, 1) := by decide +kernel
theorem dX0_keepLatest_39 : decode cX0_keepLatest 39 = .ok (.invokevirtual 44, 3) := by decide +kernel
theorem dX0_keepLatest_42 : decode cX0_keepLatest 42 = .ok (.iastore, 1) := by decide +kernel
theorem dX0_keepLatest_43 : decode cX0_keepLatest 43 = .ok (.aload_n 0, 1) := by decide +kernel
theorem dX0_keepLatest_44 : decode cX0_keepLatest 44 = .ok (.getfield 23, 3) := by decide +kernel
theorem dX0_keepLatest_47 : decode cX0_keepLatest 47 = .ok (.iconst 3, 1) := by decide +kernel
theorem dX0_keepLatest_48 : decode cX0_keepLatest 48 = .ok (.aload_n 1, 1) := by decide +kernel
theorem dX0_keepLatest_49 : decode cX0_keepLatest 49 = .ok (.getfield 56, 3) := by decide +kernel
theorem dX0_keepLatest_52 : decode cX0_keepLatest 52 = .ok (.iastore, 1) := by decide +kernel
theorem dX0_keepLatest_53 : decode cX0_keepLatest 53 = .ok (.aload_n 0, 1) := by decide +kernel
theorem dX0_keepLatest_54 : decode cX0_keepLatest 54 = .ok (.getfield 23, 3) := by decide +kernel
theorem dX0_keepLatest_57 : decode cX0_keepLatest 57 = .ok (.iconst 4, 1) := by decide +kernel
theorem dX0_keepLatest_58 : decode cX0_keepLatest 58 = .ok (.aload_n 1, 1) := by decide +kernel
theorem dX0_keepLatest_59 : decode cX0_keepLatest 59 = .ok (.getfield 59, 3) := by decide +kernel
theorem dX0_keepLatest_62 : decode cX0_keepLatest 62 = .ok (.iastore, 1) := by decide +kernel
theorem dX0_keepLatest_63 : decode cX0_keepLatest 63 = .ok (.aload_n 0, 1) := by decide +kernel
theorem dX0_keepLatest_64 : decode cX0_keepLatest 64 = .ok (.getfield 23, 3) := by decide +kernel
theorem dX0_keepLatest_67 : decode cX0_keepLatest 67 = .ok (.iconst 5, 1) := by decide +kernel
theorem dX0_keepLatest_68 : decode cX0_keepLatest 68 = .ok (.iload_n 2, 1) := by decide +kernel
theorem dX0_keepLatest_69 : decode cX0_keepLatest 69 = .ok (.ifCond .eq 7, 3) := by decide +kernel
theorem dX0_keepLatest_72 : decode cX0_keepLatest 72 = .ok (.iconst 3, 1) := by decide +kernel
theorem dX0_keepLatest_73 : decode cX0_keepLatest 73 = .ok (.goto 7, 3) := by decide +kernel
theorem dX0_keepLatest_76 : decode cX0_keepLatest 76 = .ok (.aload_n 1, 1) := by decide +kernel
theorem dX0_keepLatest_77 : decode cX0_keepLatest 77 = .ok (.getfield 62, 3) := by decide +kernel
theorem dX0_keepLatest_80 : decode cX0_keepLatest 80 = .ok (.iastore, 1) := by decide +kernel
theorem dX0_keepLatest_81 : decode cX0_keepLatest 81 = .ok (.aload_n 0, 1) := by decide +kernel
theorem dX0_keepLatest_82 : decode cX0_keepLatest 82 = .ok (.getfield 23, 3) := by decide +kernel
theorem dX0_keepLatest_85 : decode cX0_keepLatest 85 = .ok (.bipush 6, 2) := by decide +kernel
theorem dX0_keepLatest_87 : decode cX0_keepLatest 87 = .ok (.iload_n 2, 1) := by decide +kernel
theorem dX0_keepLatest_88 : decode cX0_keepLatest 88 = .ok (.ifCond .eq 7, 3) := by decide +kernel
theorem dX0_keepLatest_91 : decode cX0_keepLatest 91 = .ok (.iconst 0, 1) := by decide +kernel
theorem dX0_keepLatest_92 : decode cX0_keepLatest 92 = .ok (.goto 7, 3) := by decide +kernel
theorem dX0_keepLatest_95 : decode cX0_keepLatest 95 = .ok (.aload_n 1, 1) := by decide +kernel
theorem dX0_keepLatest_96 : decode cX0_keepLatest 96 = .ok (.getfield 65, 3) := by decide +kernel
theorem dX0_keepLatest_99 : decode cX0_keepLatest 99 = .ok (.iastore, 1) := by decide +kernel
theorem dX0_keepLatest_100 : decode cX0_keepLatest 100 = .ok (.aload_n 0, 1) := by decide +kernel
theorem dX0_keepLatest_101 : decode cX0_keepLatest 101 = .ok (.getfield 23, 3) := by decide +kernel
theorem dX0_keepLatest_104 : decode cX0_keepLatest 104 = .ok (.bipush 7, 2) := by decide +kernel
theorem dX0_keepLatest_106 : decode cX0_keepLatest 106 = .ok (.aload_n 1, 1) := by decide +kernel
theorem dX0_keepLatest_107 : decode cX0_keepLatest 107 = .ok (.getfield 68, 3) := by decide +kernel
theorem dX0_keepLatest_110 : decode cX0_keepLatest 110 = .ok (.iastore, 1) := by decide +kernel
theorem dX0_keepLatest_111 : decode cX0_keepLatest 111 = .ok (.return_, 1) := by decide +kernel
theorem dX0_timesCalled_0 : decode cX0_timesCalled 0 = .ok (.iconst 0, 1) := by decide +kernel
theorem dX0_timesCalled_1 : decode cX0_timesCalled 1 = .ok (.istore_n 2, 1) := by decide +kernel
theorem dX0_timesCalled_2 : decode cX0_timesCalled 2 = .ok (.iconst 0, 1) := by decide +kernel
theorem dX0_timesCalled_3 : decode cX0_timesCalled 3 = .ok (.istore_n 3, 1) := by decide +kernel
theorem dX0_timesCalled_4 : decode cX0_timesCalled 4 = .ok (.iload_n 3, 1) := by decide +kernel
theorem dX0_timesCalled_5 : decode cX0_timesCalled 5 = .ok (.bipush 10, 2) := by decide +kernel
theorem dX0_timesCalled_7 : decode cX0_timesCalled 7 = .ok (.if_icmp .gt 20, 3) := by decide +kernel
theorem dX0_timesCalled_10 : decode cX0_timesCalled 10 = .ok (.iload_n 2, 1) := by decide +kernel
theorem dX0_timesCalled_11 : decode cX0_timesCalled 11 = .ok (.aload_n 0, 1) := by decide +kernel
theorem dX0_timesCalled_12 : decode cX0_timesCalled 12 = .ok (.getfield 13, 3) := by decide +kernel
theorem dX0_timesCalled_15 : decode cX0_timesCalled 15 = .ok (.iload_n 3, 1) := by decide +kernel
theorem dX0_timesCalled_16 : decode cX0_timesCalled 16 = .ok (.aaload, 1) := by decide +kernel
theorem dX0_timesCalled_17 : decode cX0_timesCalled 17 = .ok (.iload_n 1, 1) := by decide +kernel
theorem dX0_timesCalled_18 : decode cX0_timesCalled 18 = .ok (.iaload, 1) := by decide +kernel
theorem dX0_timesCalled_19 : decode cX0_timesCalled 19 = .ok (.iadd, 1) := by decide +kernel
theorem dX0_timesCalled_20 : decode cX0_timesCalled 20 = .ok (.istore_n 2, 1) := by decide +kernel
theorem dX0_timesCalled_21 : decode cX0_timesCalled 21 = .ok (.iinc 3 1, 3) := by decide +kernel
theorem dX0_timesCalled_24 : decode cX0_timesCalled 24 = .ok (.goto (-20), 3) := by decide +kernel
theorem dX0_timesCalled_27 : decode cX0_timesCalled 27 = .ok (.iload_n 2, 1) := by decide +kernel
theorem dX0_timesCalled_28 : decode cX0_timesCalled 28 = .ok (.ireturn, 1) := by decide +kernel
theorem dX1_init_0 : decode cX1_init 0 = .ok (.aload_n 0, 1) := by decide +kernel
theorem dX1_init_1 : decode cX1_init 1 = .ok (.invokespecial 3, 3) := by decide +kernel
theorem dX1_init_4 : decode cX1_init 4 = .ok (.return_, 1) := by decide +kernel
theorem dX1_clear_0 : decode cX1_clear 0 = .ok (.aload_n 0, 1) := by decide +kernel
theorem dX1_clear_1 : decode cX1_clear 1 = .ok (.iconst 0, 1) := by decide +kernel
theorem dX1_clear_2 : decode cX1_clear 2 = .ok (.putfield 9, 3) := by decide +kernel
theorem dX1_clear_5 : decode cX1_clear 5 = .ok (.aload_n 0, 1) := by decide +kernel
theorem dX1_clear_6 : decode cX1_clear 6 = .ok (.iconst (-1), 1) := by decide +kernel
theorem dX1_clear_7 : decode cX1_clear 7 = .ok (.putfield 15, 3) := by decide +kernel
theorem dX1_clear_10 : decode cX1_clear 10 = .ok (.aload_n 0, 1) := by decide +kernel
theorem dX1_clear_11 : decode cX1_clear 11 = .ok (.iconst 0, 1) := by decide +kernel
theorem dX1_clear_12 : decode cX1_clear 12 = .ok (.putfield 18, 3) := by decide +kernel
theorem dX1_clear_15 : decode cX1_clear 15 = .ok (.return_, 1) := by decide +kernel
theorem dX1_need_0 : decode cX1_need 0 = .ok (.iload_n 1, 1) := by decide +kernel
theorem dX1_need_1 : decode cX1_need 1 = .ok (.iconst 3, 1) := by decide +kernel
theorem dX1_need_2 : decode cX1_need 2 = .ok (.if_icmp .eq 8, 3) := by decide +kernel
theorem dX1_need_5 : decode cX1_need 5 = .ok (.iload_n 1, 1) := by decide +kernel
theorem dX1_need_6 : decode cX1_need 6 = .ok (.iload_n 2, 1) := by decide +kernel
theorem dX1_need_7 : decode cX1_need 7 = .ok (.if_icmp .ne 4, 3) := by decide +kernel
theorem dX1_need_10 : decode cX1_need 10 = .ok (.return_, 1) := by decide +kernel
theorem dX1_need_11 : decode cX1_need 11 = .ok (.iload_n 2, 1) := by decide +kernel
theorem dX1_need_12 : decode cX1_need 12 = .ok (.iconst 3, 1) := by decide +kernel
theorem dX1_need_13 : decode cX1_need 13 = .ok (.if_icmp .ne 14, 3) := by decide +kernel
theorem dX1_need_16 : decode cX1_need 16 = .ok (.aload_n 0, 1) := by decide +kernel
theorem dX1_need_17 : decode cX1_need 17 = .ok (.dup, 1) := by decide +kernel
theorem dX1_need_18 : decode cX1_need 18 = .ok (.getfield 18, 3) := by decide +kernel
theorem dX1_need_21 : decode cX1_need 21 = .ok (.iconst 1, 1) := by decide +kernel
theorem dX1_need_22 : decode cX1_need 22 = .ok (.iadd, 1) := by decide +kernel
theorem dX1_need_23 : decode cX1_need 23 = .ok (.putfield 18, 3) := by decide +kernel
theorem dX1_need_26 : decode cX1_need 26 = .ok (.return_, 1) := by decide +kernel
theorem dX1_need_27 : decode cX1_need 27 = .ok (.aload_n 0, 1) := by decide +kernel
theorem dX1_need_28 : decode cX1_need 28 = .ok (.getfield 9, 3) := by decide +kernel
theorem dX1_need_31 : decode cX1_need 31 = .ok (.ifCond .ne 8, 3) := by decide +kernel
theorem dX1_need_34 : decode cX1_need 34 = .ok (.aload_n 0, 1) := by decide +kernel
theorem dX1_need_35 : decode cX1_need 35 = .ok (.iload_n 3, 1) := by decide +kernel
theorem dX1_need_36 : decode cX1_need 36 = .ok (.putfield 15, 3) := by decide +kernel
theorem dX1_need_39 : decode cX1_need 39 = .ok (.aload_n 0, 1) := by decide +kernel
theorem dX1_need_40 : decode cX1_need 40 = .ok (.dup, 1) := by decide +kernel
theorem dX1_need_41 : decode cX1_need 41 = .ok (.getfield 9, 3) := by decide +kernel
theorem dX1_need_44 : decode cX1_need 44 = .ok (.iconst 1, 1) := by decide +kernel
theorem dX1_need_45 : decode cX1_need 45 = .ok (.iadd, 1) := by decide +kernel
theorem dX1_need_46 : decode cX1_need 46 = .ok (.putfield 9, 3) := by decide +kernel
theorem dX1_need_49 : decode cX1_need 49 = .ok (.return_, 1) := by decide +kernel
theorem dX1_areNone_0 : decode cX1_areNone 0 = .ok (.aload_n 0, 1) := by decide +kernel
theorem dX1_areNone_1 : decode cX1_areNone 1 = .ok (.getfield 9, 3) := by decide +kernel
theorem dX1_areNone_4 : decode cX1_areNone 4 = .ok (.ifCond .ne 14, 3) := by decide +kernel
theorem dX1_areNone_7 : decode cX1_areNone 7 = .ok (.aload_n 0, 1) := by decide +kernel
theorem dX1_areNone_8 : decode cX1_areNone 8 = .ok (.getfield 18, 3) := by decide +kernel
theorem dX1_areNone_11 : decode cX1_areNone 11 = .ok (.ifCond .ne 7, 3) := by decide +kernel
theorem dX1_areNone_14 : decode cX1_areNone 14 = .ok (.iconst 1, 1) := by decide +kernel
theorem dX1_areNone_15 : decode cX1_areNone 15 = .ok (.goto 4, 3) := by decide +kernel
theorem dX1_areNone_18 : decode cX1_areNone 18 = .ok (.iconst 0, 1) := by decide +kernel
theorem dX1_areNone_19 : decode cX1_areNone 19 = .ok (.ireturn, 1) := by decide +kernel
theorem dX2_init_0 : decode cX2_init 0 = .ok (.aload_n 0, 1) := by decide +kernel
theorem dX2_init_1 : decode cX2_init 1 = .ok (.invokespecial 3, 3) := by decide +kernel
theorem dX2_init_4 : decode cX2_init 4 = .ok (.aload_n 0, 1) := by decide +kernel
theorem dX2_init_5 : decode cX2_init 5 = .ok (.bipush 6, 2) := by decide +kernel
theorem dX2_init_7 : decode cX2_init 7 = .ok (.newarray .int, 2) := by decide +kernel
theorem dX2_init_9 : decode cX2_init 9 = .ok (.putfield 9, 3) := by decide +kernel
theorem dX2_init_12 : decode cX2_init 12 = .ok (.aload_n 0, 1) := by decide +kernel
theorem dX2_init_13 : decode cX2_init 13 = .ok (.iconst 3, 1) := by decide +kernel
theorem dX2_init_14 : decode cX2_init 14 = .ok (.putfield 15, 3) := by decide +kernel
theorem dX2_init_17 : decode cX2_init 17 = .ok (.aload_n 0, 1) := by decide +kernel
theorem dX2_init_18 : decode cX2_init 18 = .ok (.iconst 3, 1) := by decide +kernel
theorem dX2_init_19 : decode cX2_init 19 = .ok (.putfield 19, 3) := by decide +kernel
theorem dX2_init_22 : decode cX2_init 22 = .ok (.return_, 1) := by decide +kernel
theorem dX2_mentions_0 : decode cX2_mentions 0 = .ok (.iconst 0, 1) := by decide +kernel
theorem dX2_mentions_1 : decode cX2_mentions 1 = .ok (.istore_n 2, 1) := by decide +kernel
theorem dX2_mentions_2 : decode cX2_mentions 2 = .ok (.iload_n 2, 1) := by decide +kernel
theorem dX2_mentions_3 : decode cX2_mentions 3 = .ok (.aload_n 0, 1) := by decide +kernel
theorem dX2_mentions_4 : decode cX2_mentions 4 = .ok (.getfield 22, 3) := by decide +kernel
theorem dX2_mentions_7 : decode cX2_mentions 7 = .ok (.if_icmp .ge 21, 3) := by decide +kernel
theorem dX2_mentions_10 : decode cX2_mentions 10 = .ok (.aload_n 0, 1) := by decide +kernel
theorem dX2_mentions_11 : decode cX2_mentions 11 = .ok (.getfield 9, 3) := by decide +kernel
theorem dX2_mentions_14 : decode cX2_mentions 14 = .ok (.iload_n 2, 1) := by decide +kernel
theorem dX2_mentions_15 : decode cX2_mentions 15 = .ok (.iaload, 1) := by decide +kernel
theorem dX2_mentions_16 : decode cX2_mentions 16 = .ok (.iload_n 1, 1) := by decide +kernel
theorem dX2_mentions_17 : decode cX2_mentions 17 = .ok (.if_icmp .ne 5, 3) := by decide +kernel
theorem dX2_mentions_20 : decode cX2_mentions 20 = .ok (.iconst 1, 1) := by decide +kernel
theorem dX2_mentions_21 : decode cX2_mentions 21 = .ok (.ireturn, 1) := by decide +kernel
theorem dX2_mentions_22 : decode cX2_mentions 22 = .ok (.iinc 2 1, 3) := by decide +kernel
theorem dX2_mentions_25 : decode cX2_mentions 25 = .ok (.goto (-23), 3) := by decide +kernel
theorem dX2_mentions_28 : decode cX2_mentions 28 = .ok (.iconst 0, 1) := by decide +kernel
theorem dX2_mentions_29 : decode cX2_mentions 29 = .ok (.ireturn, 1) := by decide +kernel
set_option maxRecDepth 20000 in
theorem ggX3_init_X2_init : GoodIn wsX3_init wsX2_init := goodIn_r _ [14, 15, 2, 3, 16, 17, 18, 19, 28, 29, 30, 31] (by decide +kernel) (by decide +kernel)
set_option maxRecDepth 20000 in
theorem gX3_init_X2_init : GoodIn wsX3_init (wsX2_init) := ggX3_init_X2_init
set_option maxRecDepth 20000 in
theorem ggX3_init_X1_init : GoodIn wsX3_init wsX1_init := goodIn_r _ [21, 22, 2, 3] (by decide +kernel) (by decide +kernel)
set_option maxRecDepth 20000 in
theorem gX3_init_X1_init_n20 : GoodIn wsX3_init (wsX1_init) := ggX3_init_X1_init
theorem dX3_init_0 : decode cX3_init 0 = .ok (.aload_n 0, 1) := by decide +kernel
theorem dX3_init_1 : decode cX3_init 1 = .ok (.invokespecial 3, 3) := by decide +kernel
theorem dX3_init_4 : decode cX3_init 4 = .ok (.aload_n 0, 1) := by decide +kernel
theorem dX3_init_5 : decode cX3_init 5 = .ok (.bipush 10, 2) := by decide +kernel
theorem dX3_init_7 : decode cX3_init 7 = .ok (.anewarray 9, 3) := by decide +kernel
theorem dX3_init_10 : decode cX3_init 10 = .ok (.putfield 11, 3) := by decide +kernel
theorem dX3_init_13 : decode cX3_init 13 = .ok (.iconst 0, 1) := by decide +kernel
theorem dX3_init_14 : decode cX3_init 14 = .ok (.istore_n 1, 1) := by decide +kernel
theorem dX3_init_15 : decode cX3_init 15 = .ok (.iload_n 1, 1) := by decide +kernel
theorem dX3_init_16 : decode cX3_init 16 = .ok (.bipush 10, 2) := by decide +kernel
theorem dX3_init_18 : decode cX3_init 18 = .ok (.if_icmp .ge 22, 3) := by decide +kernel
theorem dX3_init_21 : decode cX3_init 21 = .ok (.aload_n 0, 1) := by decide +kernel
theorem dX3_init_22 : decode cX3_init 22 = .ok (.getfield 11, 3) := by decide +kernel
theorem dX3_init_25 : decode cX3_init 25 = .ok (.iload_n 1, 1) := by decide +kernel
theorem dX3_init_26 : decode cX3_init 26 = .ok (.new 9, 3) := by decide +kernel
theorem dX3_init_29 : decode cX3_init 29 = .ok (.dup, 1) := by decide +kernel
theorem dX3_init_30 : decode cX3_init 30 = .ok (.invokespecial 17, 3) := by decide +kernel
theorem dX3_init_33 : decode cX3_init 33 = .ok (.aastore, 1) := by decide +kernel
theorem dX3_init_34 : decode cX3_init 34 = .ok (.iinc 1 1, 3) := by decide +kernel
theorem dX3_init_37 : decode cX3_init 37 = .ok (.goto (-22), 3) := by decide +kernel
theorem dX3_init_40 : decode cX3_init 40 = .ok (.aload_n 0, 1) := by decide +kernel
theorem dX3_init_41 : decode cX3_init 41 = .ok (.new 18, 3) := by decide +kernel
theorem dX3_init_44 : decode cX3_init 44 = .ok (.dup, 1) := by decide +kernel
theorem dX3_init_45 : decode cX3_init 45 = .ok (.invokespecial 20, 3) := by decide +kernel
theorem dX3_init_48 : decode cX3_init 48 = .ok (.putfield 21, 3) := by decide +kernel
theorem dX3_init_51 : decode cX3_init 51 = .ok (.return_, 1) := by decide +kernel
theorem dX3_isStep_0 : decode cX3_isStep 0 = .ok (.iload_n 1, 1) := by decide +kernel
theorem dX3_isStep_1 : decode cX3_isStep 1 = .ok (.ifCond .lt 9, 3) := by decide +kernel
theorem dX3_isStep_4 : decode cX3_isStep 4 = .ok (.iload_n 1, 1) := by decide +kernel
theorem dX3_isStep_5 : decode cX3_isStep 5 = .ok (.bipush 9, 2) := by decide +kernel
theorem dX3_isStep_7 : decode cX3_isStep 7 = .ok (.if_icmp .le 32, 3) := by decide +kernel
theorem dX3_isStep_10 : decode cX3_isStep 10 = .ok (.iload_n 1, 1) := by decide +kernel
theorem dX3_isStep_11 : decode cX3_isStep 11 = .ok (.bipush 20, 2) := by decide +kernel
theorem dX3_isStep_13 : decode cX3_isStep 13 = .ok (.if_icmp .lt 9, 3) := by decide +kernel
theorem dX3_isStep_16 : decode cX3_isStep 16 = .ok (.iload_n 1, 1) := by decide +kernel
theorem dX3_isStep_17 : decode cX3_isStep 17 = .ok (.bipush 24, 2) := by decide +kernel
theorem dX3_isStep_19 : decode cX3_isStep 19 = .ok (.if_icmp .le 20, 3) := by decide +kernel
theorem dX3_isStep_22 : decode cX3_isStep 22 = .ok (.iload_n 1, 1) := by decide +kernel
theorem dX3_isStep_23 : decode cX3_isStep 23 = .ok (.bipush 40, 2) := by decide +kernel
theorem dX3_isStep_25 : decode cX3_isStep 25 = .ok (.if_icmp .lt 18, 3) := by decide +kernel
theorem dX3_isStep_28 : decode cX3_isStep 28 = .ok (.iload_n 1, 1) := by decide +kernel
theorem dX3_isStep_29 : decode cX3_isStep 29 = .ok (.bipush 40, 2) := by decide +kernel
theorem dX3_isStep_31 : decode cX3_isStep 31 = .ok (.isub, 1) := by decide +kernel
theorem dX3_isStep_32 : decode cX3_isStep 32 = .ok (.aload_n 0, 1) := by decide +kernel
theorem dX3_isStep_33 : decode cX3_isStep 33 = .ok (.getfield 25, 3) := by decide +kernel
theorem dX3_isStep_36 : decode cX3_isStep 36 = .ok (.if_icmp .ge 7, 3) := by decide +kernel
theorem dX3_isStep_39 : decode cX3_isStep 39 = .ok (.iconst 1, 1) := by decide +kernel
theorem dX3_isStep_40 : decode cX3_isStep 40 = .ok (.goto 4, 3) := by decide +kernel
theorem dX3_isStep_43 : decode cX3_isStep 43 = .ok (.iconst 0, 1) := by decide +kernel
theorem dX3_isStep_44 : decode cX3_isStep 44 = .ok (.ireturn, 1) := by decide +kernel
set_option maxRecDepth 20000 in
theorem ggX3_needOf_X5_isCall : GoodIn wsX3_needOf wsX5_isCall := goodIn_r _ [5] (by decide +kernel) (by decide +kernel)
set_option maxRecDepth 20000 in
theorem gX3_needOf_X5_isCall_n29 : GoodIn wsX3_needOf (wsX5_isCall) := ggX3_needOf_X5_isCall
set_option maxRecDepth 20000 in
theorem ggX3_needOf_X5_plainNeed : GoodIn wsX3_needOf wsX5_plainNeed := goodIn_r _ [7] (by decide +kernel) (by decide +kernel)
set_option maxRecDepth 20000 in
theorem gX3_needOf_X5_plainNeed_n36 : GoodIn wsX3_needOf (wsX5_plainNeed) := ggX3_needOf_X5_plainNeed
theorem dX3_needOf_0 : decode cX3_needOf 0 = .ok (.iload_n 1, 1) := by decide +kernel
theorem dX3_needOf_1 : decode cX3_needOf 1 = .ok (.invokestatic 29, 3) := by decide +kernel
theorem dX3_needOf_4 : decode cX3_needOf 4 = .ok (.ifCond .eq 18, 3) := by decide +kernel
theorem dX3_needOf_7 : decode cX3_needOf 7 = .ok (.aload_n 0, 1) := by decide +kernel
theorem dX3_needOf_8 : decode cX3_needOf 8 = .ok (.getfield 11, 3) := by decide +kernel
theorem dX3_needOf_11 : decode cX3_needOf 11 = .ok (.iload_n 1, 1) := by decide +kernel
theorem dX3_needOf_12 : decode cX3_needOf 12 = .ok (.bipush 40, 2) := by decide +kernel
theorem dX3_needOf_14 : decode cX3_needOf 14 = .ok (.isub, 1) := by decide +kernel
theorem dX3_needOf_15 : decode cX3_needOf 15 = .ok (.aaload, 1) := by decide +kernel
theorem dX3_needOf_16 : decode cX3_needOf 16 = .ok (.getfield 33, 3) := by decide +kernel
theorem dX3_needOf_19 : decode cX3_needOf 19 = .ok (.goto 7, 3) := by decide +kernel
theorem dX3_needOf_22 : decode cX3_needOf 22 = .ok (.iload_n 1, 1) := by decide +kernel
theorem dX3_needOf_23 : decode cX3_needOf 23 = .ok (.invokestatic 36, 3) := by decide +kernel
theorem dX3_needOf_26 : decode cX3_needOf 26 = .ok (.ireturn, 1) := by decide +kernel
set_option maxRecDepth 20000 in
theorem ggX3_giftOf_X5_isCall : GoodIn wsX3_giftOf wsX5_isCall := goodIn_r _ [5] (by decide +kernel) (by decide +kernel)
set_option maxRecDepth 20000 in
theorem gX3_giftOf_X5_isCall_n29 : GoodIn wsX3_giftOf (wsX5_isCall) := ggX3_giftOf_X5_isCall
set_option maxRecDepth 20000 in
theorem ggX3_giftOf_X5_plainGift : GoodIn wsX3_giftOf wsX5_plainGift := goodIn_r _ [7] (by decide +kernel) (by decide +kernel)
set_option maxRecDepth 20000 in
theorem gX3_giftOf_X5_plainGift_n43 : GoodIn wsX3_giftOf (wsX5_plainGift) := ggX3_giftOf_X5_plainGift
theorem dX3_giftOf_0 : decode cX3_giftOf 0 = .ok (.iload_n 1, 1) := by decide +kernel
theorem dX3_giftOf_1 : decode cX3_giftOf 1 = .ok (.invokestatic 29, 3) := by decide +kernel
theorem dX3_giftOf_4 : decode cX3_giftOf 4 = .ok (.ifCond .eq 18, 3) := by decide +kernel
theorem dX3_giftOf_7 : decode cX3_giftOf 7 = .ok (.aload_n 0, 1) := by decide +kernel
theorem dX3_giftOf_8 : decode cX3_giftOf 8 = .ok (.getfield 11, 3) := by decide +kernel
theorem dX3_giftOf_11 : decode cX3_giftOf 11 = .ok (.iload_n 1, 1) := by decide +kernel
theorem dX3_giftOf_12 : decode cX3_giftOf 12 = .ok (.bipush 40, 2) := by decide +kernel
theorem dX3_giftOf_14 : decode cX3_giftOf 14 = .ok (.isub, 1) := by decide +kernel
theorem dX3_giftOf_15 : decode cX3_giftOf 15 = .ok (.aaload, 1) := by decide +kernel
theorem dX3_giftOf_16 : decode cX3_giftOf 16 = .ok (.getfield 40, 3) := by decide +kernel
theorem dX3_giftOf_19 : decode cX3_giftOf 19 = .ok (.goto 7, 3) := by decide +kernel
theorem dX3_giftOf_22 : decode cX3_giftOf 22 = .ok (.iload_n 1, 1) := by decide +kernel
theorem dX3_giftOf_23 : decode cX3_giftOf 23 = .ok (.invokestatic 43, 3) := by decide +kernel
theorem dX3_giftOf_26 : decode cX3_giftOf 26 = .ok (.ireturn, 1) := by decide +kernel
set_option maxRecDepth 20000 in
theorem ggX3_guessIn_X3_needOf : GoodIn wsX3_guessIn wsX3_needOf := goodIn_r _ [7, 8, 9, 10, 11, 12, 13, 14, 19, 20, 21, 22, 23, 15, 16, 17, 18] (by decide +kernel) (by decide +kernel)
set_option maxRecDepth 20000 in
theorem gX3_guessIn_X3_needOf : GoodIn wsX3_guessIn (wsV RX3 51 RX3 yX3_needOf wsX3_needOf) := goodIn_app (goodIn_of _ (by decide +kernel)) ggX3_guessIn_X3_needOf
theorem dX3_guessIn_0 : decode cX3_guessIn 0 = .ok (.aload_n 1, 1) := by decide +kernel
theorem dX3_guessIn_1 : decode cX3_guessIn 1 = .ok (.getfield 46, 3) := by decide +kernel
theorem dX3_guessIn_4 : decode cX3_guessIn 4 = .ok (.ifCond .ne 7, 3) := by decide +kernel
theorem dX3_guessIn_7 : decode cX3_guessIn 7 = .ok (.iconst 3, 1) := by decide +kernel
theorem dX3_guessIn_8 : decode cX3_guessIn 8 = .ok (.goto 13, 3) := by decide +kernel
theorem dX3_guessIn_11 : decode cX3_guessIn 11 = .ok (.aload_n 0, 1) := by decide +kernel
theorem dX3_guessIn_12 : decode cX3_guessIn 12 = .ok (.aload_n 1, 1) := by decide +kernel
theorem dX3_guessIn_13 : decode cX3_guessIn 13 = .ok (.getfield 47, 3) := by decide +kernel
theorem dX3_guessIn_16 : decode cX3_guessIn 16 = .ok (.iconst 0, 1) := by decide +kernel
theorem dX3_guessIn_17 : decode cX3_guessIn 17 = .ok (.iaload, 1) := by decide +kernel
theorem dX3_guessIn_18 : decode cX3_guessIn 18 = .ok (.invokevirtual 51, 3) := by decide +kernel
theorem dX3_guessIn_21 : decode cX3_guessIn 21 = .ok (.ireturn, 1) := by decide +kernel
set_option maxRecDepth 20000 in
theorem ggX3_guessOut_X3_giftOf : GoodIn wsX3_guessOut wsX3_giftOf := goodIn_r _ [7, 8, 9, 10, 11, 12, 13, 14, 19, 20, 21, 22, 23, 15, 16, 17, 18] (by decide +kernel) (by decide +kernel)
set_option maxRecDepth 20000 in
theorem gX3_guessOut_X3_giftOf : GoodIn wsX3_guessOut (wsV RX3 54 RX3 yX3_giftOf wsX3_giftOf) := goodIn_app (goodIn_of _ (by decide +kernel)) ggX3_guessOut_X3_giftOf
theorem dX3_guessOut_0 : decode cX3_guessOut 0 = .ok (.aload_n 1, 1) := by decide +kernel
theorem dX3_guessOut_1 : decode cX3_guessOut 1 = .ok (.getfield 46, 3) := by decide +kernel
theorem dX3_guessOut_4 : decode cX3_guessOut 4 = .ok (.ifCond .ne 7, 3) := by decide +kernel
theorem dX3_guessOut_7 : decode cX3_guessOut 7 = .ok (.iconst 3, 1) := by decide +kernel
theorem dX3_guessOut_8 : decode cX3_guessOut 8 = .ok (.goto 18, 3) := by decide +kernel
theorem dX3_guessOut_11 : decode cX3_guessOut 11 = .ok (.aload_n 0, 1) := by decide +kernel
theorem dX3_guessOut_12 : decode cX3_guessOut 12 = .ok (.aload_n 1, 1) := by decide +kernel
theorem dX3_guessOut_13 : decode cX3_guessOut 13 = .ok (.getfield 47, 3) := by decide +kernel
theorem dX3_guessOut_16 : decode cX3_guessOut 16 = .ok (.aload_n 1, 1) := by decide +kernel
theorem dX3_guessOut_17 : decode cX3_guessOut 17 = .ok (.getfield 46, 3) := by decide +kernel
theorem dX3_guessOut_20 : decode cX3_guessOut 20 = .ok (.iconst 1, 1) := by decide +kernel
theorem dX3_guessOut_21 : decode cX3_guessOut 21 = .ok (.isub, 1) := by decide +kernel
theorem dX3_guessOut_22 : decode cX3_guessOut 22 = .ok (.iaload, 1) := by decide +kernel
theorem dX3_guessOut_23 : decode cX3_guessOut 23 = .ok (.invokevirtual 54, 3) := by decide +kernel
theorem dX3_guessOut_26 : decode cX3_guessOut 26 = .ok (.ireturn, 1) := by decide +kernel
set_option maxRecDepth 20000 in
theorem ggX3_checked_X1_clear : GoodIn wsX3_checked wsX1_clear := goodIn_r _ [11, 12, 13, 14, 44, 45, 46] (by decide +kernel) (by decide +kernel)
set_option maxRecDepth 20000 in
theorem gX3_checked_X1_clear : GoodIn wsX3_checked (wsV RX3 57 RX1 yX1_clear wsX1_clear) := goodIn_app (goodIn_of _ (by decide +kernel)) ggX3_checked_X1_clear
set_option maxRecDepth 20000 in
theorem ggX3_checked_X3_needOf : GoodIn wsX3_checked wsX3_needOf := goodIn_r _ [19, 1, 3, 20, 21, 22, 23, 24, 35, 36, 37, 38, 39, 40, 41, 42, 43] (by decide +kernel) (by decide +kernel)
set_option maxRecDepth 20000 in
theorem gX3_checked_X3_needOf : GoodIn wsX3_checked (wsV RX3 51 RX3 yX3_needOf wsX3_needOf) := goodIn_app (goodIn_of _ (by decide +kernel)) ggX3_checked_X3_needOf
set_option maxRecDepth 20000 in
theorem ggX3_checked_X1_need : GoodIn wsX3_checked wsX1_need := goodIn_r _ [28, 14, 12, 13, 44, 45, 46] (by decide +kernel) (by decide +kernel)
set_option maxRecDepth 20000 in
theorem gX3_checked_X1_need : GoodIn wsX3_checked (wsV RX3 60 RX1 yX1_need wsX1_need) := goodIn_app (goodIn_of _ (by decide +kernel)) ggX3_checked_X1_need
set_option maxRecDepth 20000 in
theorem ggX3_checked_X3_giftOf : GoodIn wsX3_checked wsX3_giftOf := goodIn_r _ [32, 1, 6, 20, 21, 22, 33, 34, 35, 36, 37, 38, 39, 40, 41, 42, 43] (by decide +kernel) (by decide +kernel)
set_option maxRecDepth 20000 in
theorem gX3_checked_X3_giftOf : GoodIn wsX3_checked (wsV RX3 54 RX3 yX3_giftOf wsX3_giftOf) := goodIn_app (goodIn_of _ (by decide +kernel)) ggX3_checked_X3_giftOf
theorem dX3_checked_0 : decode cX3_checked 0 = .ok (.aload_n 0, 1) := by decide +kernel
theorem dX3_checked_1 : decode cX3_checked 1 = .ok (.getfield 11, 3) := by decide +kernel
theorem dX3_checked_4 : decode cX3_checked 4 = .ok (.iload_n 1, 1) := by decide +kernel
theorem dX3_checked_5 : decode cX3_checked 5 = .ok (.aaload, 1) := by decide +kernel
theorem dX3_checked_6 : decode cX3_checked 6 = .ok (.astore_n 2, 1) := by decide +kernel
theorem dX3_checked_7 : decode cX3_checked 7 = .ok (.aload_n 0, 1) := by decide +kernel
theorem dX3_checked_8 : decode cX3_checked 8 = .ok (.getfield 21, 3) := by decide +kernel
theorem dX3_checked_11 : decode cX3_checked 11 = .ok (.invokevirtual 57, 3) := by decide +kernel
theorem dX3_checked_14 : decode cX3_checked 14 = .ok (.aload_n 2, 1) := by decide +kernel
theorem dX3_checked_15 : decode cX3_checked 15 = .ok (.getfield 33, 3) := by decide +kernel
theorem dX3_checked_18 : decode cX3_checked 18 = .ok (.istore_n 3, 1) := by decide +kernel
theorem dX3_checked_19 : decode cX3_checked 19 = .ok (.iconst 0, 1) := by decide +kernel
theorem dX3_checked_20 : decode cX3_checked 20 = .ok (.istore 4, 2) := by decide +kernel
theorem dX3_checked_22 : decode cX3_checked 22 = .ok (.iload 4, 2) := by decide +kernel
theorem dX3_checked_24 : decode cX3_checked 24 = .ok (.aload_n 2, 1) := by decide +kernel
theorem dX3_checked_25 : decode cX3_checked 25 = .ok (.getfield 46, 3) := by decide +kernel
theorem dX3_checked_28 : decode cX3_checked 28 = .ok (.if_icmp .ge 41, 3) := by decide +kernel
theorem dX3_checked_31 : decode cX3_checked 31 = .ok (.aload_n 2, 1) := by decide +kernel
theorem dX3_checked_32 : decode cX3_checked 32 = .ok (.getfield 47, 3) := by decide +kernel
theorem dX3_checked_35 : decode cX3_checked 35 = .ok (.iload 4, 2) := by decide +kernel
theorem dX3_checked_37 : decode cX3_checked 37 = .ok (.iaload, 1) := by decide +kernel
theorem dX3_checked_38 : decode cX3_checked 38 = .ok (.istore 5, 2) := by decide +kernel
theorem dX3_checked_40 : decode cX3_checked 40 = .ok (.aload_n 0, 1) := by decide +kernel
theorem dX3_checked_41 : decode cX3_checked 41 = .ok (.getfield 21, 3) := by decide +kernel
theorem dX3_checked_44 : decode cX3_checked 44 = .ok (.aload_n 0, 1) := by decide +kernel
theorem dX3_checked_45 : decode cX3_checked 45 = .ok (.iload 5, 2) := by decide +kernel
theorem dX3_checked_47 : decode cX3_checked 47 = .ok (.invokevirtual 51, 3) := by decide +kernel
theorem dX3_checked_50 : decode cX3_checked 50 = .ok (.iload_n 3, 1) := by decide +kernel
theorem dX3_checked_51 : decode cX3_checked 51 = .ok (.iload 4, 2) := by decide +kernel
theorem dX3_checked_53 : decode cX3_checked 53 = .ok (.invokevirtual 60, 3) := by decide +kernel
theorem dX3_checked_56 : decode cX3_checked 56 = .ok (.aload_n 0, 1) := by decide +kernel
theorem dX3_checked_57 : decode cX3_checked 57 = .ok (.iload 5, 2) := by decide +kernel
theorem dX3_checked_59 : decode cX3_checked 59 = .ok (.invokevirtual 54, 3) := by decide +kernel
theorem dX3_checked_62 : decode cX3_checked 62 = .ok (.istore_n 3, 1) := by decide +kernel
theorem dX3_checked_63 : decode cX3_checked 63 = .ok (.iinc 4 1, 3) := by decide +kernel
theorem dX3_checked_66 : decode cX3_checked 66 = .ok (.goto (-44), 3) := by decide +kernel
theorem dX3_checked_69 : decode cX3_checked 69 = .ok (.aload_n 0, 1) := by decide +kernel
theorem dX3_checked_70 : decode cX3_checked 70 = .ok (.getfield 21, 3) := by decide +kernel
theorem dX3_checked_73 : decode cX3_checked 73 = .ok (.aload_n 2, 1) := by decide +kernel
theorem dX3_checked_74 : decode cX3_checked 74 = .ok (.getfield 40, 3) := by decide +kernel
theorem dX3_checked_77 : decode cX3_checked 77 = .ok (.iload_n 3, 1) := by decide +kernel
theorem dX3_checked_78 : decode cX3_checked 78 = .ok (.aload_n 2, 1) := by decide +kernel
theorem dX3_checked_79 : decode cX3_checked 79 = .ok (.getfield 46, 3) := by decide +kernel
theorem dX3_checked_82 : decode cX3_checked 82 = .ok (.invokevirtual 60, 3) := by decide +kernel
theorem dX3_checked_85 : decode cX3_checked 85 = .ok (.aload_n 0, 1) := by decide +kernel
theorem dX3_checked_86 : decode cX3_checked 86 = .ok (.getfield 21, 3) := by decide +kernel
theorem dX3_checked_89 : decode cX3_checked 89 = .ok (.areturn, 1) := by decide +kernel
set_option maxRecDepth 20000 in
theorem ggX3_typable_X3_checked : GoodIn wsX3_typable wsX3_checked := goodIn_r _ [6, 7, 8, 9, 10, 11, 12, 13, 14, 15, 16, 17, 18, 19, 20, 21, 22, 23, 5, 24, 25, 26, 27, 28, 29, 30, 31, 32, 33, 34, 35, 36, 37, 38, 39, 46, 47, 48, 49, 50, 51, 52, 53, 54, 55, 56, 57] (by decide +kernel) (by decide +kernel)
set_option maxRecDepth 20000 in
theorem gX3_typable_X3_checked : GoodIn wsX3_typable (wsV RX3 64 RX3 yX3_checked wsX3_checked) := goodIn_app (goodIn_of _ (by decide +kernel)) ggX3_typable_X3_checked
set_option maxRecDepth 20000 in
theorem ggX3_typable_X1_areNone : GoodIn wsX3_typable wsX1_areNone := goodIn_r _ [43, 18, 20, 55, 56, 57] (by decide +kernel) (by decide +kernel)
set_option maxRecDepth 20000 in
theorem gX3_typable_X1_areNone : GoodIn wsX3_typable (wsV RX3 68 RX1 yX1_areNone wsX1_areNone) := goodIn_app (goodIn_of _ (by decide +kernel)) ggX3_typable_X1_areNone
set_option maxRecDepth 20000 in
theorem ggX3_typable_X5_with : GoodIn wsX3_typable wsX5_with := goodIn_r _ [45] (by decide +kernel) (by decide +kernel)
set_option maxRecDepth 20000 in
theorem gX3_typable_X5_with_n72 : GoodIn wsX3_typable (wsX5_with) := ggX3_typable_X5_with
theorem dX3_typable_0 : decode cX3_typable 0 = .ok (.iconst 0, 1) := by decide +kernel
theorem dX3_typable_1 : decode cX3_typable 1 = .ok (.istore_n 1, 1) := by decide +kernel
theorem dX3_typable_2 : decode cX3_typable 2 = .ok (.iconst 0, 1) := by decide +kernel
theorem dX3_typable_3 : decode cX3_typable 3 = .ok (.istore_n 2, 1) := by decide +kernel
theorem dX3_typable_4 : decode cX3_typable 4 = .ok (.iload_n 2, 1) := by decide +kernel
theorem dX3_typable_5 : decode cX3_typable 5 = .ok (.aload_n 0, 1) := by decide +kernel
theorem dX3_typable_6 : decode cX3_typable 6 = .ok (.getfield 25, 3) := by decide +kernel
theorem dX3_typable_9 : decode cX3_typable 9 = .ok (.if_icmp .ge 26, 3) := by decide +kernel
theorem dX3_typable_12 : decode cX3_typable 12 = .ok (.aload_n 0, 1) := by decide +kernel
theorem dX3_typable_13 : decode cX3_typable 13 = .ok (.iload_n 2, 1) := by decide +kernel
theorem dX3_typable_14 : decode cX3_typable 14 = .ok (.invokevirtual 64, 3) := by decide +kernel
theorem dX3_typable_17 : decode cX3_typable 17 = .ok (.invokevirtual 68, 3) := by decide +kernel
theorem dX3_typable_20 : decode cX3_typable 20 = .ok (.ifCond .eq 9, 3) := by decide +kernel
theorem dX3_typable_23 : decode cX3_typable 23 = .ok (.iload_n 1, 1) := by decide +kernel
theorem dX3_typable_24 : decode cX3_typable 24 = .ok (.iload_n 2, 1) := by decide +kernel
theorem dX3_typable_25 : decode cX3_typable 25 = .ok (.invokestatic 72, 3) := by decide +kernel
theorem dX3_typable_28 : decode cX3_typable 28 = .ok (.istore_n 1, 1) := by decide +kernel
theorem dX3_typable_29 : decode cX3_typable 29 = .ok (.iinc 2 1, 3) := by decide +kernel
theorem dX3_typable_32 : decode cX3_typable 32 = .ok (.goto (-28), 3) := by decide +kernel
theorem dX3_typable_35 : decode cX3_typable 35 = .ok (.iload_n 1, 1) := by decide +kernel
theorem dX3_typable_36 : decode cX3_typable 36 = .ok (.ireturn, 1) := by decide +kernel
set_option maxRecDepth 20000 in
theorem ggX3_allFaults_X3_checked : GoodIn wsX3_allFaults wsX3_checked := goodIn_r _ [7, 8, 9, 10, 11, 12, 13, 14, 15, 16, 17, 18, 19, 20, 21, 22, 23, 24, 6, 25, 26, 27, 28, 29, 30, 31, 32, 33, 34, 35, 36, 37, 38, 39, 40, 41, 42, 43, 44, 45, 49, 50, 51, 52, 46, 47, 48] (by decide +kernel) (by decide +kernel)
set_option maxRecDepth 20000 in
theorem gX3_allFaults_X3_checked : GoodIn wsX3_allFaults (wsV RX3 64 RX3 yX3_checked wsX3_checked) := goodIn_app (goodIn_of _ (by decide +kernel)) ggX3_allFaults_X3_checked
theorem dX3_allFaults_0 : decode cX3_allFaults 0 = .ok (.iconst 0, 1) := by decide +kernel
theorem dX3_allFaults_1 : decode cX3_allFaults 1 = .ok (.istore_n 1, 1) := by decide +kernel
theorem dX3_allFaults_2 : decode cX3_allFaults 2 = .ok (.iconst 0, 1) := by decide +kernel
theorem dX3_allFaults_3 : decode cX3_allFaults 3 = .ok (.istore_n 2, 1) := by decide +kernel
theorem dX3_allFaults_4 : decode cX3_allFaults 4 = .ok (.iload_n 2, 1) := by decide +kernel
theorem dX3_allFaults_5 : decode cX3_allFaults 5 = .ok (.aload_n 0, 1) := by decide +kernel
theorem dX3_allFaults_6 : decode cX3_allFaults 6 = .ok (.getfield 25, 3) := by decide +kernel
theorem dX3_allFaults_9 : decode cX3_allFaults 9 = .ok (.if_icmp .ge 20, 3) := by decide +kernel
theorem dX3_allFaults_12 : decode cX3_allFaults 12 = .ok (.iload_n 1, 1) := by decide +kernel
theorem dX3_allFaults_13 : decode cX3_allFaults 13 = .ok (.aload_n 0, 1) := by decide +kernel
theorem dX3_allFaults_14 : decode cX3_allFaults 14 = .ok (.iload_n 2, 1) := by decide +kernel
theorem dX3_allFaults_15 : decode cX3_allFaults 15 = .ok (.invokevirtual 64, 3) := by decide +kernel
theorem dX3_allFaults_18 : decode cX3_allFaults 18 = .ok (.getfield 76, 3) := by decide +kernel
theorem dX3_allFaults_21 : decode cX3_allFaults 21 = .ok (.iadd, 1) := by decide +kernel
theorem dX3_allFaults_22 : decode cX3_allFaults 22 = .ok (.istore_n 1, 1) := by decide +kernel
theorem dX3_allFaults_23 : decode cX3_allFaults 23 = .ok (.iinc 2 1, 3) := by decide +kernel
theorem dX3_allFaults_26 : decode cX3_allFaults 26 = .ok (.goto (-22), 3) := by decide +kernel
theorem dX3_allFaults_29 : decode cX3_allFaults 29 = .ok (.iload_n 1, 1) := by decide +kernel
theorem dX3_allFaults_30 : decode cX3_allFaults 30 = .ok (.ireturn, 1) := by decide +kernel
set_option maxRecDepth 20000 in
theorem ggX3_callersOf_X2_mentions : GoodIn wsX3_callersOf wsX2_mentions := goodIn_r _ [7, 8, 9, 15, 16, 17, 18] (by decide +kernel) (by decide +kernel)
set_option maxRecDepth 20000 in
theorem gX3_callersOf_X2_mentions : GoodIn wsX3_callersOf (wsV RX3 79 RX2 yX2_mentions wsX2_mentions) := goodIn_app (goodIn_of _ (by decide +kernel)) ggX3_callersOf_X2_mentions
theorem dX3_callersOf_0 : decode cX3_callersOf 0 = .ok (.iconst 0, 1) := by decide +kernel
theorem dX3_callersOf_1 : decode cX3_callersOf 1 = .ok (.istore_n 2, 1) := by decide +kernel
theorem dX3_callersOf_2 : decode cX3_callersOf 2 = .ok (.iconst 0, 1) := by decide +kernel
theorem dX3_callersOf_3 : decode cX3_callersOf 3 = .ok (.istore_n 3, 1) := by decide +kernel
theorem dX3_callersOf_4 : decode cX3_callersOf 4 = .ok (.iload_n 3, 1) := by decide +kernel
theorem dX3_callersOf_5 : decode cX3_callersOf 5 = .ok (.aload_n 0, 1) := by decide +kernel
theorem dX3_callersOf_6 : decode cX3_callersOf 6 = .ok (.getfield 25, 3) := by decide +kernel
theorem dX3_callersOf_9 : decode cX3_callersOf 9 = .ok (.if_icmp .ge 33, 3) := by decide +kernel
theorem dX3_callersOf_12 : decode cX3_callersOf 12 = .ok (.iload_n 3, 1) := by decide +kernel
theorem dX3_callersOf_13 : decode cX3_callersOf 13 = .ok (.iload_n 1, 1) := by decide +kernel
theorem dX3_callersOf_14 : decode cX3_callersOf 14 = .ok (.if_icmp .eq 22, 3) := by decide +kernel
theorem dX3_callersOf_17 : decode cX3_callersOf 17 = .ok (.aload_n 0, 1) := by decide +kernel
theorem dX3_callersOf_18 : decode cX3_callersOf 18 = .ok (.getfield 11, 3) := by decide +kernel
theorem dX3_callersOf_21 : decode cX3_callersOf 21 = .ok (.iload_n 3, 1) := by decide +kernel
theorem dX3_callersOf_22 : decode cX3_callersOf 22 = .ok (.aaload, 1) := by decide +kernel
theorem dX3_callersOf_23 : decode cX3_callersOf 23 = .ok (.bipush 40, 2) := by decide +kernel
theorem dX3_callersOf_25 : decode cX3_callersOf 25 = .ok (.iload_n 1, 1) := by decide +kernel
theorem dX3_callersOf_26 : decode cX3_callersOf 26 = .ok (.iadd, 1) := by decide +kernel
theorem dX3_callersOf_27 : decode cX3_callersOf 27 = .ok (.invokevirtual 79, 3) := by decide +kernel
theorem dX3_callersOf_30 : decode cX3_callersOf 30 = .ok (.ifCond .eq 6, 3) := by decide +kernel
theorem dX3_callersOf_33 : decode cX3_callersOf 33 = .ok (.iinc 2 1, 3) := by decide +kernel
theorem dX3_callersOf_36 : decode cX3_callersOf 36 = .ok (.iinc 3 1, 3) := by decide +kernel
theorem dX3_callersOf_39 : decode cX3_callersOf 39 = .ok (.goto (-35), 3) := by decide +kernel
theorem dX3_callersOf_42 : decode cX3_callersOf 42 = .ok (.iload_n 2, 1) := by decide +kernel
theorem dX3_callersOf_43 : decode cX3_callersOf 43 = .ok (.ireturn, 1) := by decide +kernel
set_option maxRecDepth 20000 in
theorem ggX3_afterStepsChanged_X3_dropUntypable : GoodIn wsX3_afterStepsChanged wsX3_dropUntypable := goodIn_r _ [6, 7, 8, 9, 10, 5, 11, 12, 13, 14, 15, 16, 17, 18, 19, 20, 21, 22, 23, 24, 25, 26, 27, 28, 29, 30, 31, 32, 33, 34, 35, 36, 37, 38, 39, 40, 41, 42, 43, 44, 45, 46, 47, 48, 49, 50, 51, 52, 53, 54, 55, 56, 57, 58, 59, 60, 61, 62, 63, 64, 65, 66, 67, 68, 69, 70, 71, 72, 73, 74, 75, 76, 77, 78] (by decide +kernel) (by decide +kernel)
set_option maxRecDepth 20000 in
theorem gX3_afterStepsChanged_X3_dropUntypable : GoodIn wsX3_afterStepsChanged (wsV RX3 85 RX3 yX3_dropUntypable wsX3_dropUntypable) := goodIn_app (goodIn_of _ (by decide +kernel)) ggX3_afterStepsChanged_X3_dropUntypable
theorem dX3_afterStepsChanged_0 : decode cX3_afterStepsChanged 0 = .ok (.aload_n 0, 1) := by decide +kernel
theorem dX3_afterStepsChanged_1 : decode cX3_afterStepsChanged 1 = .ok (.dup, 1) := by decide +kernel
theorem dX3_afterStepsChanged_2 : decode cX3_afterStepsChanged 2 = .ok (.getfield 82, 3) := by decide +kernel
theorem dX3_afterStepsChanged_5 : decode cX3_afterStepsChanged 5 = .ok (.iconst 1, 1) := by decide +kernel
theorem dX3_afterStepsChanged_6 : decode cX3_afterStepsChanged 6 = .ok (.iadd, 1) := by decide +kernel
theorem dX3_afterStepsChanged_7 : decode cX3_afterStepsChanged 7 = .ok (.putfield 82, 3) := by decide +kernel
theorem dX3_afterStepsChanged_10 : decode cX3_afterStepsChanged 10 = .ok (.aload_n 0, 1) := by decide +kernel
theorem dX3_afterStepsChanged_11 : decode cX3_afterStepsChanged 11 = .ok (.invokevirtual 85, 3) := by decide +kernel
theorem dX3_afterStepsChanged_14 : decode cX3_afterStepsChanged 14 = .ok (.pop, 1) := by decide +kernel
theorem dX3_afterStepsChanged_15 : decode cX3_afterStepsChanged 15 = .ok (.return_, 1) := by decide +kernel
set_option maxRecDepth 20000 in
theorem ggX3_changeHints_X3_callersOf : GoodIn wsX3_changeHints wsX3_callersOf := goodIn_r _ [9, 10, 1, 11, 12, 13, 14, 15, 16, 17, 18, 19, 20, 21, 22, 23, 24, 25, 26] (by decide +kernel) (by decide +kernel)
set_option maxRecDepth 20000 in
theorem gX3_changeHints_X3_callersOf : GoodIn wsX3_changeHints (wsV RX3 89 RX3 yX3_callersOf wsX3_callersOf) := goodIn_app (goodIn_of _ (by decide +kernel)) ggX3_changeHints_X3_callersOf
theorem dX3_changeHints_0 : decode cX3_changeHints 0 = .ok (.aload_n 0, 1) := by decide +kernel
theorem dX3_changeHints_1 : decode cX3_changeHints 1 = .ok (.getfield 11, 3) := by decide +kernel
theorem dX3_changeHints_4 : decode cX3_changeHints 4 = .ok (.iload_n 1, 1) := by decide +kernel
theorem dX3_changeHints_5 : decode cX3_changeHints 5 = .ok (.aaload, 1) := by decide +kernel
theorem dX3_changeHints_6 : decode cX3_changeHints 6 = .ok (.astore 4, 2) := by decide +kernel
theorem dX3_changeHints_8 : decode cX3_changeHints 8 = .ok (.aload 4, 2) := by decide +kernel
theorem dX3_changeHints_10 : decode cX3_changeHints 10 = .ok (.getfield 33, 3) := by decide +kernel
theorem dX3_changeHints_13 : decode cX3_changeHints 13 = .ok (.iload_n 2, 1) := by decide +kernel
theorem dX3_changeHints_14 : decode cX3_changeHints 14 = .ok (.if_icmp .ne 7, 3) := by decide +kernel
theorem dX3_changeHints_17 : decode cX3_changeHints 17 = .ok (.iconst 0, 1) := by decide +kernel
theorem dX3_changeHints_18 : decode cX3_changeHints 18 = .ok (.goto 4, 3) := by decide +kernel
theorem dX3_changeHints_21 : decode cX3_changeHints 21 = .ok (.iconst 1, 1) := by decide +kernel
theorem dX3_changeHints_22 : decode cX3_changeHints 22 = .ok (.aload 4, 2) := by decide +kernel
theorem dX3_changeHints_24 : decode cX3_changeHints 24 = .ok (.getfield 40, 3) := by decide +kernel
theorem dX3_changeHints_27 : decode cX3_changeHints 27 = .ok (.iload_n 3, 1) := by decide +kernel
theorem dX3_changeHints_28 : decode cX3_changeHints 28 = .ok (.if_icmp .ne 7, 3) := by decide +kernel
theorem dX3_changeHints_31 : decode cX3_changeHints 31 = .ok (.iconst 0, 1) := by decide +kernel
theorem dX3_changeHints_32 : decode cX3_changeHints 32 = .ok (.goto 4, 3) := by decide +kernel
theorem dX3_changeHints_35 : decode cX3_changeHints 35 = .ok (.iconst 1, 1) := by decide +kernel
theorem dX3_changeHints_36 : decode cX3_changeHints 36 = .ok (.iadd, 1) := by decide +kernel
theorem dX3_changeHints_37 : decode cX3_changeHints 37 = .ok (.istore 5, 2) := by decide +kernel
theorem dX3_changeHints_39 : decode cX3_changeHints 39 = .ok (.aload 4, 2) := by decide +kernel
theorem dX3_changeHints_41 : decode cX3_changeHints 41 = .ok (.iload_n 2, 1) := by decide +kernel
theorem dX3_changeHints_42 : decode cX3_changeHints 42 = .ok (.putfield 33, 3) := by decide +kernel
theorem dX3_changeHints_45 : decode cX3_changeHints 45 = .ok (.aload 4, 2) := by decide +kernel
theorem dX3_changeHints_47 : decode cX3_changeHints 47 = .ok (.iload_n 3, 1) := by decide +kernel
theorem dX3_changeHints_48 : decode cX3_changeHints 48 = .ok (.putfield 40, 3) := by decide +kernel
theorem dX3_changeHints_51 : decode cX3_changeHints 51 = .ok (.iload 5, 2) := by decide +kernel
theorem dX3_changeHints_53 : decode cX3_changeHints 53 = .ok (.ifCond .le 19, 3) := by decide +kernel
theorem dX3_changeHints_56 : decode cX3_changeHints 56 = .ok (.aload_n 0, 1) := by decide +kernel
theorem dX3_changeHints_57 : decode cX3_changeHints 57 = .ok (.dup, 1) := by decide +kernel
theorem dX3_changeHints_58 : decode cX3_changeHints 58 = .ok (.getfield 82, 3) := by decide +kernel
theorem dX3_changeHints_61 : decode cX3_changeHints 61 = .ok (.iconst 1, 1) := by decide +kernel
theorem dX3_changeHints_62 : decode cX3_changeHints 62 = .ok (.aload_n 0, 1) := by decide +kernel
theorem dX3_changeHints_63 : decode cX3_changeHints 63 = .ok (.iload_n 1, 1) := by decide +kernel
theorem dX3_changeHints_64 : decode cX3_changeHints 64 = .ok (.invokevirtual 89, 3) := by decide +kernel
theorem dX3_changeHints_67 : decode cX3_changeHints 67 = .ok (.iadd, 1) := by decide +kernel
theorem dX3_changeHints_68 : decode cX3_changeHints 68 = .ok (.iadd, 1) := by decide +kernel
theorem dX3_changeHints_69 : decode cX3_changeHints 69 = .ok (.putfield 82, 3) := by decide +kernel
theorem dX3_changeHints_72 : decode cX3_changeHints 72 = .ok (.iload 5, 2) := by decide +kernel
theorem dX3_changeHints_74 : decode cX3_changeHints 74 = .ok (.ireturn, 1) := by decide +kernel
set_option maxRecDepth 20000 in
theorem ggX3_untypable_X3_typable : GoodIn wsX3_untypable wsX3_typable := goodIn_r _ [6, 7, 8, 9, 10, 5, 11, 12, 13, 14, 15, 16, 17, 18, 19, 20, 21, 22, 23, 24, 25, 26, 27, 28, 29, 30, 31, 32, 33, 34, 35, 36, 37, 38, 39, 40, 41, 42, 43, 44, 45, 46, 47, 48, 49, 50, 51, 52, 53, 54, 55, 56, 57, 58, 59, 60, 61, 62] (by decide +kernel) (by decide +kernel)
set_option maxRecDepth 20000 in
theorem gX3_untypable_X3_typable : GoodIn wsX3_untypable (wsV RX3 95 RX3 yX3_typable wsX3_typable) := goodIn_app (goodIn_of _ (by decide +kernel)) ggX3_untypable_X3_typable
theorem dX3_untypable_0 : decode cX3_untypable 0 = .ok (.aload_n 0, 1) := by decide +kernel
theorem dX3_untypable_1 : decode cX3_untypable 1 = .ok (.getfield 92, 3) := by decide +kernel
theorem dX3_untypable_4 : decode cX3_untypable 4 = .ok (.aload_n 0, 1) := by decide +kernel
theorem dX3_untypable_5 : decode cX3_untypable 5 = .ok (.invokevirtual 95, 3) := by decide +kernel
theorem dX3_untypable_8 : decode cX3_untypable 8 = .ok (.iconst (-1), 1) := by decide +kernel
theorem dX3_untypable_9 : decode cX3_untypable 9 = .ok (.ixor, 1) := by decide +kernel
theorem dX3_untypable_10 : decode cX3_untypable 10 = .ok (.iand, 1) := by decide +kernel
theorem dX3_untypable_11 : decode cX3_untypable 11 = .ok (.ireturn, 1) := by decide +kernel
set_option maxRecDepth 20000 in
theorem ggX3_dropUntypable_X3_untypable : GoodIn wsX3_dropUntypable wsX3_untypable := goodIn_r _ [6, 1, 7, 8, 9, 5, 10, 11, 12, 13, 14, 15, 16, 17, 18, 19, 20, 21, 22, 23, 24, 25, 26, 27, 28, 29, 30, 31, 32, 33, 34, 35, 36, 37, 38, 39, 40, 41, 42, 43, 44, 45, 46, 47, 48, 49, 50, 51, 52, 53, 54, 62, 63, 64, 65, 66, 67, 68, 69, 70, 71, 72, 73] (by decide +kernel) (by decide +kernel)
set_option maxRecDepth 20000 in
theorem gX3_dropUntypable_X3_untypable : GoodIn wsX3_dropUntypable (wsV RX3 98 RX3 yX3_untypable wsX3_untypable) := goodIn_app (goodIn_of _ (by decide +kernel)) ggX3_dropUntypable_X3_untypable
set_option maxRecDepth 20000 in
theorem ggX3_dropUntypable_J6_bitCount_0f7a4 : GoodIn wsX3_dropUntypable wsJ6_bitCount_0f7a4 := goodIn_r _ [58, 59, 60, 61] (by decide +kernel) (by decide +kernel)
set_option maxRecDepth 20000 in
theorem gX3_dropUntypable_J6_bitCount_0f7a4 : GoodIn wsX3_dropUntypable (va_wsS RX3 101 yJ6_bitCount_0f7a4 wsJ6_bitCount_0f7a4) := goodIn_app (goodIn_of _ (by decide +kernel)) ggX3_dropUntypable_J6_bitCount_0f7a4
theorem dX3_dropUntypable_0 : decode cX3_dropUntypable 0 = .ok (.aload_n 0, 1) := by decide +kernel
theorem dX3_dropUntypable_1 : decode cX3_dropUntypable 1 = .ok (.invokevirtual 98, 3) := by decide +kernel
theorem dX3_dropUntypable_4 : decode cX3_dropUntypable 4 = .ok (.istore_n 1, 1) := by decide +kernel
theorem dX3_dropUntypable_5 : decode cX3_dropUntypable 5 = .ok (.aload_n 0, 1) := by decide +kernel
theorem dX3_dropUntypable_6 : decode cX3_dropUntypable 6 = .ok (.dup, 1) := by decide +kernel
theorem dX3_dropUntypable_7 : decode cX3_dropUntypable 7 = .ok (.getfield 92, 3) := by decide +kernel
theorem dX3_dropUntypable_10 : decode cX3_dropUntypable 10 = .ok (.iload_n 1, 1) := by decide +kernel
theorem dX3_dropUntypable_11 : decode cX3_dropUntypable 11 = .ok (.iconst (-1), 1) := by decide +kernel
theorem dX3_dropUntypable_12 : decode cX3_dropUntypable 12 = .ok (.ixor, 1) := by decide +kernel
theorem dX3_dropUntypable_13 : decode cX3_dropUntypable 13 = .ok (.iand, 1) := by decide +kernel
theorem dX3_dropUntypable_14 : decode cX3_dropUntypable 14 = .ok (.putfield 92, 3) := by decide +kernel
theorem dX3_dropUntypable_17 : decode cX3_dropUntypable 17 = .ok (.iload_n 1, 1) := by decide +kernel
theorem dX3_dropUntypable_18 : decode cX3_dropUntypable 18 = .ok (.invokestatic 101, 3) := by decide +kernel
theorem dX3_dropUntypable_21 : decode cX3_dropUntypable 21 = .ok (.ireturn, 1) := by decide +kernel
set_option maxRecDepth 20000 in
theorem ggX3_untypableWith_X3_untypable : GoodIn wsX3_untypableWith wsX3_untypable := goodIn_r _ [8, 9, 10, 11, 12, 7, 13, 14, 15, 16, 17, 18, 1, 19, 2, 20, 21, 3, 22, 23, 24, 25, 26, 27, 28, 29, 30, 31, 32, 33, 34, 35, 36, 37, 38, 39, 40, 41, 42, 43, 44, 45, 46, 47, 48, 49, 50, 51, 52, 53, 54, 55, 56, 57, 58, 59, 60, 61, 62, 63, 64, 65, 66] (by decide +kernel) (by decide +kernel)
set_option maxRecDepth 20000 in
theorem gX3_untypableWith_X3_untypable : GoodIn wsX3_untypableWith (wsV RX3 98 RX3 yX3_untypable wsX3_untypable) := goodIn_app (goodIn_of _ (by decide +kernel)) ggX3_untypableWith_X3_untypable
theorem dX3_untypableWith_0 : decode cX3_untypableWith 0 = .ok (.aload_n 0, 1) := by decide +kernel
theorem dX3_untypableWith_1 : decode cX3_untypableWith 1 = .ok (.getfield 11, 3) := by decide +kernel
theorem dX3_untypableWith_4 : decode cX3_untypableWith 4 = .ok (.iload_n 1, 1) := by decide +kernel
theorem dX3_untypableWith_5 : decode cX3_untypableWith 5 = .ok (.aaload, 1) := by decide +kernel
theorem dX3_untypableWith_6 : decode cX3_untypableWith 6 = .ok (.astore 4, 2) := by decide +kernel
theorem dX3_untypableWith_8 : decode cX3_untypableWith 8 = .ok (.aload 4, 2) := by decide +kernel
theorem dX3_untypableWith_10 : decode cX3_untypableWith 10 = .ok (.getfield 33, 3) := by decide +kernel
theorem dX3_untypableWith_13 : decode cX3_untypableWith 13 = .ok (.istore 5, 2) := by decide +kernel
theorem dX3_untypableWith_15 : decode cX3_untypableWith 15 = .ok (.aload 4, 2) := by decide +kernel
theorem dX3_untypableWith_17 : decode cX3_untypableWith 17 = .ok (.getfield 40, 3) := by decide +kernel
theorem dX3_untypableWith_20 : decode cX3_untypableWith 20 = .ok (.istore 6, 2) := by decide +kernel
theorem dX3_untypableWith_22 : decode cX3_untypableWith 22 = .ok (.aload 4, 2) := by decide +kernel
theorem dX3_untypableWith_24 : decode cX3_untypableWith 24 = .ok (.iload_n 2, 1) := by decide +kernel
theorem dX3_untypableWith_25 : decode cX3_untypableWith 25 = .ok (.putfield 33, 3) := by decide +kernel
theorem dX3_untypableWith_28 : decode cX3_untypableWith 28 = .ok (.aload 4, 2) := by decide +kernel
theorem dX3_untypableWith_30 : decode cX3_untypableWith 30 = .ok (.iload_n 3, 1) := by decide +kernel
theorem dX3_untypableWith_31 : decode cX3_untypableWith 31 = .ok (.putfield 40, 3) := by decide +kernel
theorem dX3_untypableWith_34 : decode cX3_untypableWith 34 = .ok (.aload_n 0, 1) := by decide +kernel
theorem dX3_untypableWith_35 : decode cX3_untypableWith 35 = .ok (.invokevirtual 98, 3) := by decide +kernel
theorem dX3_untypableWith_38 : decode cX3_untypableWith 38 = .ok (.istore 7, 2) := by decide +kernel
theorem dX3_untypableWith_40 : decode cX3_untypableWith 40 = .ok (.aload 4, 2) := by decide +kernel
theorem dX3_untypableWith_42 : decode cX3_untypableWith 42 = .ok (.iload 5, 2) := by decide +kernel
theorem dX3_untypableWith_44 : decode cX3_untypableWith 44 = .ok (.putfield 33, 3) := by decide +kernel
theorem dX3_untypableWith_47 : decode cX3_untypableWith 47 = .ok (.aload 4, 2) := by decide +kernel
theorem dX3_untypableWith_49 : decode cX3_untypableWith 49 = .ok (.iload 6, 2) := by decide +kernel
theorem dX3_untypableWith_51 : decode cX3_untypableWith 51 = .ok (.putfield 40, 3) := by decide +kernel
theorem dX3_untypableWith_54 : decode cX3_untypableWith 54 = .ok (.iload 7, 2) := by decide +kernel
theorem dX3_untypableWith_56 : decode cX3_untypableWith 56 = .ok (.ireturn, 1) := by decide +kernel
set_option maxRecDepth 20000 in
theorem ggX3_guardsCall_X5_has : GoodIn wsX3_guardsCall wsX5_has := goodIn_r _ [5] (by decide +kernel) (by decide +kernel)
set_option maxRecDepth 20000 in
theorem gX3_guardsCall_X5_has_n106 : GoodIn wsX3_guardsCall (wsX5_has) := ggX3_guardsCall_X5_has
theorem dX3_guardsCall_0 : decode cX3_guardsCall 0 = .ok (.iload_n 3, 1) := by decide +kernel
theorem dX3_guardsCall_1 : decode cX3_guardsCall 1 = .ok (.iload_n 2, 1) := by decide +kernel
theorem dX3_guardsCall_2 : decode cX3_guardsCall 2 = .ok (.invokestatic 106, 3) := by decide +kernel
theorem dX3_guardsCall_5 : decode cX3_guardsCall 5 = .ok (.ifCond .eq 28, 3) := by decide +kernel
theorem dX3_guardsCall_8 : decode cX3_guardsCall 8 = .ok (.iload_n 3, 1) := by decide +kernel
theorem dX3_guardsCall_9 : decode cX3_guardsCall 9 = .ok (.iload_n 1, 1) := by decide +kernel
theorem dX3_guardsCall_10 : decode cX3_guardsCall 10 = .ok (.invokestatic 106, 3) := by decide +kernel
theorem dX3_guardsCall_13 : decode cX3_guardsCall 13 = .ok (.ifCond .ne 20, 3) := by decide +kernel
theorem dX3_guardsCall_16 : decode cX3_guardsCall 16 = .ok (.aload_n 0, 1) := by decide +kernel
theorem dX3_guardsCall_17 : decode cX3_guardsCall 17 = .ok (.getfield 11, 3) := by decide +kernel
theorem dX3_guardsCall_20 : decode cX3_guardsCall 20 = .ok (.iload_n 2, 1) := by decide +kernel
theorem dX3_guardsCall_21 : decode cX3_guardsCall 21 = .ok (.aaload, 1) := by decide +kernel
theorem dX3_guardsCall_22 : decode cX3_guardsCall 22 = .ok (.getfield 33, 3) := by decide +kernel
theorem dX3_guardsCall_25 : decode cX3_guardsCall 25 = .ok (.iconst 3, 1) := by decide +kernel
theorem dX3_guardsCall_26 : decode cX3_guardsCall 26 = .ok (.if_icmp .eq 7, 3) := by decide +kernel
theorem dX3_guardsCall_29 : decode cX3_guardsCall 29 = .ok (.iconst 1, 1) := by decide +kernel
theorem dX3_guardsCall_30 : decode cX3_guardsCall 30 = .ok (.goto 4, 3) := by decide +kernel
theorem dX3_guardsCall_33 : decode cX3_guardsCall 33 = .ok (.iconst 0, 1) := by decide +kernel
theorem dX3_guardsCall_34 : decode cX3_guardsCall 34 = .ok (.ireturn, 1) := by decide +kernel
set_option maxRecDepth 20000 in
theorem ggX3_guardsGive_X5_has : GoodIn wsX3_guardsGive wsX5_has := goodIn_r _ [5] (by decide +kernel) (by decide +kernel)
set_option maxRecDepth 20000 in
theorem gX3_guardsGive_X5_has_n106 : GoodIn wsX3_guardsGive (wsX5_has) := ggX3_guardsGive_X5_has
theorem dX3_guardsGive_0 : decode cX3_guardsGive 0 = .ok (.iload_n 3, 1) := by decide +kernel
theorem dX3_guardsGive_1 : decode cX3_guardsGive 1 = .ok (.iload_n 1, 1) := by decide +kernel
theorem dX3_guardsGive_2 : decode cX3_guardsGive 2 = .ok (.invokestatic 106, 3) := by decide +kernel
theorem dX3_guardsGive_5 : decode cX3_guardsGive 5 = .ok (.ifCond .eq 28, 3) := by decide +kernel
theorem dX3_guardsGive_8 : decode cX3_guardsGive 8 = .ok (.iload_n 3, 1) := by decide +kernel
theorem dX3_guardsGive_9 : decode cX3_guardsGive 9 = .ok (.iload_n 2, 1) := by decide +kernel
theorem dX3_guardsGive_10 : decode cX3_guardsGive 10 = .ok (.invokestatic 106, 3) := by decide +kernel
theorem dX3_guardsGive_13 : decode cX3_guardsGive 13 = .ok (.ifCond .ne 20, 3) := by decide +kernel
theorem dX3_guardsGive_16 : decode cX3_guardsGive 16 = .ok (.aload_n 0, 1) := by decide +kernel
theorem dX3_guardsGive_17 : decode cX3_guardsGive 17 = .ok (.getfield 11, 3) := by decide +kernel
theorem dX3_guardsGive_20 : decode cX3_guardsGive 20 = .ok (.iload_n 2, 1) := by decide +kernel
theorem dX3_guardsGive_21 : decode cX3_guardsGive 21 = .ok (.aaload, 1) := by decide +kernel
theorem dX3_guardsGive_22 : decode cX3_guardsGive 22 = .ok (.getfield 40, 3) := by decide +kernel
theorem dX3_guardsGive_25 : decode cX3_guardsGive 25 = .ok (.iconst 3, 1) := by decide +kernel
theorem dX3_guardsGive_26 : decode cX3_guardsGive 26 = .ok (.if_icmp .eq 7, 3) := by decide +kernel
theorem dX3_guardsGive_29 : decode cX3_guardsGive 29 = .ok (.iconst 1, 1) := by decide +kernel
theorem dX3_guardsGive_30 : decode cX3_guardsGive 30 = .ok (.goto 4, 3) := by decide +kernel
theorem dX3_guardsGive_33 : decode cX3_guardsGive 33 = .ok (.iconst 0, 1) := by decide +kernel
theorem dX3_guardsGive_34 : decode cX3_guardsGive 34 = .ok (.ireturn, 1) := by decide +kernel
set_option maxRecDepth 20000 in
theorem ggX4_init_X5_newCallTable : GoodIn wsX4_init wsX5_newCallTable := goodIn_r _ [8, 9, 10] (by decide +kernel) (by decide +kernel)
set_option maxRecDepth 20000 in
theorem gX4_init_X5_newCallTable_n15 : GoodIn wsX4_init (wsX5_newCallTable) := ggX4_init_X5_newCallTable
theorem dX4_init_0 : decode cX4_init 0 = .ok (.aload_n 0, 1) := by decide +kernel
theorem dX4_init_1 : decode cX4_init 1 = .ok (.invokespecial 3, 3) := by decide +kernel
theorem dX4_init_4 : decode cX4_init 4 = .ok (.aload_n 0, 1) := by decide +kernel
theorem dX4_init_5 : decode cX4_init 5 = .ok (.aload_n 1, 1) := by decide +kernel
theorem dX4_init_6 : decode cX4_init 6 = .ok (.putfield 9, 3) := by decide +kernel
theorem dX4_init_9 : decode cX4_init 9 = .ok (.aload_n 0, 1) := by decide +kernel
theorem dX4_init_10 : decode cX4_init 10 = .ok (.invokestatic 15, 3) := by decide +kernel
theorem dX4_init_13 : decode cX4_init 13 = .ok (.putfield 19, 3) := by decide +kernel
theorem dX4_init_16 : decode cX4_init 16 = .ok (.return_, 1) := by decide +kernel
set_option maxRecDepth 20000 in
theorem ggX4_tryOut_X4_clear : GoodIn wsX4_tryOut wsX4_clear := goodIn_r _ [8, 9, 10, 11, 12, 13, 14, 15, 16, 17, 86, 87, 88, 89, 90, 91, 92, 93, 94, 95, 96, 97, 98] (by decide +kernel) (by decide +kernel)
set_option maxRecDepth 20000 in
theorem gX4_tryOut_X4_clear : GoodIn wsX4_tryOut (wsV RX4 23 RX4 yX4_clear wsX4_clear) := goodIn_app (goodIn_of _ (by decide +kernel)) ggX4_tryOut_X4_clear
set_option maxRecDepth 20000 in
theorem ggX4_tryOut_X4_enter : GoodIn wsX4_tryOut wsX4_enter := goodIn_r _ [21, 13, 22, 23, 24, 25, 9, 26, 27, 28, 29, 14, 30, 31, 32, 33, 7, 34, 15, 35, 36, 37, 38, 39, 40, 41, 42, 43, 44, 45, 46, 47, 48, 49, 50, 2, 11, 1, 12, 16, 17, 51, 52, 53, 54, 55, 56, 57, 58, 59, 10, 3, 60, 61, 18, 19, 20, 62, 63, 64, 65, 66, 67, 68, 69, 70, 71, 72, 73, 74, 75, 76, 77, 78, 79, 80, 81, 82, 83, 84, 85, 86, 87, 88, 89, 90, 91, 92, 93, 94, 95, 96, 97, 98, 99, 100, 101, 102, 103, 104, 105, 106, 107] (by decide +kernel) (by decide +kernel)
set_option maxRecDepth 20000 in
theorem gX4_tryOut_X4_enter : GoodIn wsX4_tryOut (wsV RX4 36 RX4 yX4_enter wsX4_enter) := goodIn_app (goodIn_of _ (by decide +kernel)) ggX4_tryOut_X4_enter
theorem dX4_tryOut_0 : decode cX4_tryOut 0 = .ok (.aload_n 0, 1) := by decide +kernel
theorem dX4_tryOut_1 : decode cX4_tryOut 1 = .ok (.invokevirtual 23, 3) := by decide +kernel
theorem dX4_tryOut_4 : decode cX4_tryOut 4 = .ok (.aload_n 0, 1) := by decide +kernel
theorem dX4_tryOut_5 : decode cX4_tryOut 5 = .ok (.iload 4, 2) := by decide +kernel
