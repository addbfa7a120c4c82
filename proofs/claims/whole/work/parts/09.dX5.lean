set_option maxRecDepth 20000 in
theorem ggX5_init_X0_init : GoodIn wsX5_init wsX0_init := goodIn_r _ [28, 29, 2, 3, 30, 31, 32, 33, 34, 35, 36, 6, 37, 38, 39, 40, 41, 42, 43, 44, 81, 82, 83, 84, 85] (by decide +kernel) (by decide +kernel)
set_option maxRecDepth 20000 in
theorem gX5_init_X0_init : GoodIn wsX5_init (wsX0_init) := ggX5_init_X0_init
set_option maxRecDepth 20000 in
theorem ggX5_init_X3_init : GoodIn wsX5_init wsX3_init := goodIn_r _ [47, 48, 2, 3, 24, 49, 50, 51, 52, 53, 54, 55, 92, 93, 94, 95, 96, 97, 98] (by decide +kernel) (by decide +kernel)
set_option maxRecDepth 20000 in
theorem gX5_init_X3_init : GoodIn wsX5_init (wsX3_init) := ggX5_init_X3_init
set_option maxRecDepth 20000 in
theorem ggX5_init_X1_init : GoodIn wsX5_init wsX1_init := goodIn_r _ [57, 58, 2, 3, 24, 59, 60, 61, 62, 63, 99, 100, 101, 102, 103] (by decide +kernel) (by decide +kernel)
set_option maxRecDepth 20000 in
theorem gX5_init_X1_init_n29 : GoodIn wsX5_init (wsX1_init) := ggX5_init_X1_init
set_option maxRecDepth 20000 in
theorem ggX5_init_X4_init : GoodIn wsX5_init wsX4_init := goodIn_r _ [66, 67, 2, 3, 24, 68, 69, 70, 71, 104, 105, 106, 107] (by decide +kernel) (by decide +kernel)
set_option maxRecDepth 20000 in
theorem gX5_init_X4_init : GoodIn wsX5_init (wsX4_init) := ggX5_init_X4_init
set_option maxRecDepth 20000 in
theorem ggX5_init_X2_init : GoodIn wsX5_init wsX2_init := goodIn_r _ [74, 75, 2, 3, 24, 76, 77, 78, 79, 80, 108, 109, 110, 111, 112] (by decide +kernel) (by decide +kernel)
set_option maxRecDepth 20000 in
theorem gX5_init_X2_init : GoodIn wsX5_init (wsX2_init) := ggX5_init_X2_init
theorem dX5_init_0 : decode cX5_init 0 = .ok (.aload_n 0, 1) := by decide +kernel
theorem dX5_init_1 : decode cX5_init 1 = .ok (.invokespecial 1, 3) := by decide +kernel
theorem dX5_init_4 : decode cX5_init 4 = .ok (.aload_n 0, 1) := by decide +kernel
theorem dX5_init_5 : decode cX5_init 5 = .ok (.new 7, 3) := by decide +kernel
theorem dX5_init_8 : decode cX5_init 8 = .ok (.dup, 1) := by decide +kernel
theorem dX5_init_9 : decode cX5_init 9 = .ok (.iload_n 1, 1) := by decide +kernel
theorem dX5_init_10 : decode cX5_init 10 = .ok (.iload_n 2, 1) := by decide +kernel
theorem dX5_init_11 : decode cX5_init 11 = .ok (.iload_n 3, 1) := by decide +kernel
theorem dX5_init_12 : decode cX5_init 12 = .ok (.invokespecial 9, 3) := by decide +kernel
theorem dX5_init_15 : decode cX5_init 15 = .ok (.putfield 12, 3) := by decide +kernel
theorem dX5_init_18 : decode cX5_init 18 = .ok (.aload_n 0, 1) := by decide +kernel
theorem dX5_init_19 : decode cX5_init 19 = .ok (.new 18, 3) := by decide +kernel
theorem dX5_init_22 : decode cX5_init 22 = .ok (.dup, 1) := by decide +kernel
theorem dX5_init_23 : decode cX5_init 23 = .ok (.aload_n 0, 1) := by decide +kernel
theorem dX5_init_24 : decode cX5_init 24 = .ok (.getfield 12, 3) := by decide +kernel
theorem dX5_init_27 : decode cX5_init 27 = .ok (.invokespecial 20, 3) := by decide +kernel
theorem dX5_init_30 : decode cX5_init 30 = .ok (.putfield 23, 3) := by decide +kernel
theorem dX5_init_33 : decode cX5_init 33 = .ok (.aload_n 0, 1) := by decide +kernel
theorem dX5_init_34 : decode cX5_init 34 = .ok (.new 27, 3) := by decide +kernel
theorem dX5_init_37 : decode cX5_init 37 = .ok (.dup, 1) := by decide +kernel
theorem dX5_init_38 : decode cX5_init 38 = .ok (.invokespecial 29, 3) := by decide +kernel
theorem dX5_init_41 : decode cX5_init 41 = .ok (.putfield 30, 3) := by decide +kernel
theorem dX5_init_44 : decode cX5_init 44 = .ok (.aload_n 0, 1) := by decide +kernel
theorem dX5_init_45 : decode cX5_init 45 = .ok (.new 34, 3) := by decide +kernel
theorem dX5_init_48 : decode cX5_init 48 = .ok (.dup, 1) := by decide +kernel
theorem dX5_init_49 : decode cX5_init 49 = .ok (.aload_n 0, 1) := by decide +kernel
theorem dX5_init_50 : decode cX5_init 50 = .ok (.getfield 12, 3) := by decide +kernel
theorem dX5_init_53 : decode cX5_init 53 = .ok (.aload_n 0, 1) := by decide +kernel
theorem dX5_init_54 : decode cX5_init 54 = .ok (.getfield 30, 3) := by decide +kernel
theorem dX5_init_57 : decode cX5_init 57 = .ok (.invokespecial 36, 3) := by decide +kernel
theorem dX5_init_60 : decode cX5_init 60 = .ok (.putfield 39, 3) := by decide +kernel
theorem dX5_init_63 : decode cX5_init 63 = .ok (.aload_n 0, 1) := by decide +kernel
theorem dX5_init_64 : decode cX5_init 64 = .ok (.new 43, 3) := by decide +kernel
theorem dX5_init_67 : decode cX5_init 67 = .ok (.dup, 1) := by decide +kernel
theorem dX5_init_68 : decode cX5_init 68 = .ok (.aload_n 0, 1) := by decide +kernel
theorem dX5_init_69 : decode cX5_init 69 = .ok (.getfield 12, 3) := by decide +kernel
theorem dX5_init_72 : decode cX5_init 72 = .ok (.aload_n 0, 1) := by decide +kernel
theorem dX5_init_73 : decode cX5_init 73 = .ok (.getfield 30, 3) := by decide +kernel
theorem dX5_init_76 : decode cX5_init 76 = .ok (.invokespecial 45, 3) := by decide +kernel
theorem dX5_init_79 : decode cX5_init 79 = .ok (.putfield 46, 3) := by decide +kernel
theorem dX5_init_82 : decode cX5_init 82 = .ok (.aload_n 0, 1) := by decide +kernel
theorem dX5_init_83 : decode cX5_init 83 = .ok (.bipush 16, 2) := by decide +kernel
theorem dX5_init_85 : decode cX5_init 85 = .ok (.newarray .int, 2) := by decide +kernel
theorem dX5_init_87 : decode cX5_init 87 = .ok (.putfield 50, 3) := by decide +kernel
theorem dX5_init_90 : decode cX5_init 90 = .ok (.iconst 0, 1) := by decide +kernel
theorem dX5_init_91 : decode cX5_init 91 = .ok (.istore 4, 2) := by decide +kernel
theorem dX5_init_93 : decode cX5_init 93 = .ok (.iload 4, 2) := by decide +kernel
theorem dX5_init_95 : decode cX5_init 95 = .ok (.bipush 16, 2) := by decide +kernel
theorem dX5_init_97 : decode cX5_init 97 = .ok (.if_icmp .ge 17, 3) := by decide +kernel
theorem dX5_init_100 : decode cX5_init 100 = .ok (.aload_n 0, 1) := by decide +kernel
theorem dX5_init_101 : decode cX5_init 101 = .ok (.getfield 50, 3) := by decide +kernel
theorem dX5_init_104 : decode cX5_init 104 = .ok (.iload 4, 2) := by decide +kernel
theorem dX5_init_106 : decode cX5_init 106 = .ok (.iconst (-1), 1) := by decide +kernel
theorem dX5_init_107 : decode cX5_init 107 = .ok (.iastore, 1) := by decide +kernel
theorem dX5_init_108 : decode cX5_init 108 = .ok (.iinc 4 1, 3) := by decide +kernel
theorem dX5_init_111 : decode cX5_init 111 = .ok (.goto (-18), 3) := by decide +kernel
theorem dX5_init_114 : decode cX5_init 114 = .ok (.return_, 1) := by decide +kernel
set_option maxRecDepth 20000 in
theorem ggX5_rule_X3_append : GoodIn wsX5_rule wsX3_append := goodIn_r _ [6, 7, 8, 9, 16, 17, 18, 19, 20, 21, 22] (by decide +kernel) (by decide +kernel)
set_option maxRecDepth 20000 in
theorem gX5_rule_X3_append : GoodIn wsX5_rule (wsV RX5 54 RX3 yX3_append wsX3_append) := goodIn_app (goodIn_of _ (by decide +kernel)) ggX5_rule_X3_append
theorem dX5_rule_0 : decode cX5_rule 0 = .ok (.iload_n 1, 1) := by decide +kernel
theorem dX5_rule_1 : decode cX5_rule 1 = .ok (.ifCond .lt 18, 3) := by decide +kernel
theorem dX5_rule_4 : decode cX5_rule 4 = .ok (.iload_n 1, 1) := by decide +kernel
theorem dX5_rule_5 : decode cX5_rule 5 = .ok (.iconst 4, 1) := by decide +kernel
theorem dX5_rule_6 : decode cX5_rule 6 = .ok (.if_icmp .gt 13, 3) := by decide +kernel
theorem dX5_rule_9 : decode cX5_rule 9 = .ok (.iload_n 2, 1) := by decide +kernel
theorem dX5_rule_10 : decode cX5_rule 10 = .ok (.ifCond .lt 9, 3) := by decide +kernel
theorem dX5_rule_13 : decode cX5_rule 13 = .ok (.iload_n 2, 1) := by decide +kernel
theorem dX5_rule_14 : decode cX5_rule 14 = .ok (.bipush 99, 2) := by decide +kernel
theorem dX5_rule_16 : decode cX5_rule 16 = .ok (.if_icmp .le 5, 3) := by decide +kernel
theorem dX5_rule_19 : decode cX5_rule 19 = .ok (.iconst (-1), 1) := by decide +kernel
theorem dX5_rule_20 : decode cX5_rule 20 = .ok (.ireturn, 1) := by decide +kernel
theorem dX5_rule_21 : decode cX5_rule 21 = .ok (.aload_n 0, 1) := by decide +kernel
theorem dX5_rule_22 : decode cX5_rule 22 = .ok (.getfield 23, 3) := by decide +kernel
theorem dX5_rule_25 : decode cX5_rule 25 = .ok (.iload_n 1, 1) := by decide +kernel
theorem dX5_rule_26 : decode cX5_rule 26 = .ok (.iload_n 2, 1) := by decide +kernel
theorem dX5_rule_27 : decode cX5_rule 27 = .ok (.invokevirtual 54, 3) := by decide +kernel
theorem dX5_rule_30 : decode cX5_rule 30 = .ok (.ireturn, 1) := by decide +kernel
set_option maxRecDepth 20000 in
theorem ggX5_into_X5_needRule : GoodIn wsX5_into wsX5_needRule := goodIn_r _ [6, 1, 7, 8, 9, 10, 11, 12, 13, 14, 15, 37, 38, 39, 40, 41, 42, 43, 44, 45, 46, 47, 48, 49, 50, 51, 52, 53, 54, 55] (by decide +kernel) (by decide +kernel)
set_option maxRecDepth 20000 in
theorem gX5_into_X5_needRule : GoodIn wsX5_into (wsV RX5 58 RX5 yX5_needRule wsX5_needRule) := goodIn_app (goodIn_of _ (by decide +kernel)) ggX5_into_X5_needRule
set_option maxRecDepth 20000 in
theorem ggX5_into_X5_needCell : GoodIn wsX5_into wsX5_needCell := goodIn_r _ [19, 20, 7, 8, 9, 21, 22, 23, 24, 25, 26, 37, 38, 39, 40, 41, 42, 43, 44, 45, 46, 47, 48, 56, 57, 58, 59, 60] (by decide +kernel) (by decide +kernel)
set_option maxRecDepth 20000 in
theorem gX5_into_X5_needCell : GoodIn wsX5_into (wsV RX5 62 RX5 yX5_needCell wsX5_needCell) := goodIn_app (goodIn_of _ (by decide +kernel)) ggX5_into_X5_needCell
set_option maxRecDepth 20000 in
theorem ggX5_into_X3_addCell : GoodIn wsX5_into wsX3_addCell := goodIn_r _ [30, 31, 32, 33, 34, 35, 13, 36, 49, 50, 51, 52, 53, 54, 55] (by decide +kernel) (by decide +kernel)
set_option maxRecDepth 20000 in
theorem gX5_into_X3_addCell : GoodIn wsX5_into (wsV RX5 65 RX3 yX3_addCell wsX3_addCell) := goodIn_app (goodIn_of _ (by decide +kernel)) ggX5_into_X3_addCell
theorem dX5_into_0 : decode cX5_into 0 = .ok (.aload_n 0, 1) := by decide +kernel
theorem dX5_into_1 : decode cX5_into 1 = .ok (.iload_n 1, 1) := by decide +kernel
theorem dX5_into_2 : decode cX5_into 2 = .ok (.invokevirtual 58, 3) := by decide +kernel
theorem dX5_into_5 : decode cX5_into 5 = .ok (.aload_n 0, 1) := by decide +kernel
theorem dX5_into_6 : decode cX5_into 6 = .ok (.iload_n 2, 1) := by decide +kernel
theorem dX5_into_7 : decode cX5_into 7 = .ok (.invokevirtual 62, 3) := by decide +kernel
theorem dX5_into_10 : decode cX5_into 10 = .ok (.aload_n 0, 1) := by decide +kernel
theorem dX5_into_11 : decode cX5_into 11 = .ok (.getfield 23, 3) := by decide +kernel
theorem dX5_into_14 : decode cX5_into 14 = .ok (.iload_n 1, 1) := by decide +kernel
theorem dX5_into_15 : decode cX5_into 15 = .ok (.iload_n 2, 1) := by decide +kernel
theorem dX5_into_16 : decode cX5_into 16 = .ok (.invokevirtual 65, 3) := by decide +kernel
theorem dX5_into_19 : decode cX5_into 19 = .ok (.ireturn, 1) := by decide +kernel
set_option maxRecDepth 20000 in
theorem ggX5_answer_X5_needCell : GoodIn wsX5_answer wsX5_needCell := goodIn_r _ [6, 7, 8, 9, 10, 11, 12, 13, 14, 15, 16, 28, 29, 30, 31, 32, 33, 34, 35, 36, 37, 38, 39, 40, 41, 42, 43, 44] (by decide +kernel) (by decide +kernel)
set_option maxRecDepth 20000 in
theorem gX5_answer_X5_needCell : GoodIn wsX5_answer (wsV RX5 62 RX5 yX5_needCell wsX5_needCell) := goodIn_app (goodIn_of _ (by decide +kernel)) ggX5_answer_X5_needCell
set_option maxRecDepth 20000 in
theorem ggX5_answer_X5_needSymbol : GoodIn wsX5_answer wsX5_needSymbol := goodIn_ca (goodIn_r _ [20, 21, 22, 7, 23, 24, 25, 14, 26, 27, 28, 29, 30, 31, 32, 33, 40, 41, 42, 43, 44] (by decide +kernel) (by decide +kernel)) (goodIn_sub (fun _ h => List.mem_cons_of_mem _ (List.mem_append_right _ h)) (by decide +kernel))
set_option maxRecDepth 20000 in
theorem gX5_answer_X5_needSymbol : GoodIn wsX5_answer (wsV RX5 69 RX5 yX5_needSymbol wsX5_needSymbol) := goodIn_app (goodIn_of _ (by decide +kernel)) ggX5_answer_X5_needSymbol
theorem dX5_answer_0 : decode cX5_answer 0 = .ok (.aload_n 0, 1) := by decide +kernel
theorem dX5_answer_1 : decode cX5_answer 1 = .ok (.iload_n 1, 1) := by decide +kernel
theorem dX5_answer_2 : decode cX5_answer 2 = .ok (.invokevirtual 62, 3) := by decide +kernel
theorem dX5_answer_5 : decode cX5_answer 5 = .ok (.iload_n 2, 1) := by decide +kernel
theorem dX5_answer_6 : decode cX5_answer 6 = .ok (.iconst (-1), 1) := by decide +kernel
theorem dX5_answer_7 : decode cX5_answer 7 = .ok (.if_icmp .eq 8, 3) := by decide +kernel
theorem dX5_answer_10 : decode cX5_answer 10 = .ok (.aload_n 0, 1) := by decide +kernel
theorem dX5_answer_11 : decode cX5_answer 11 = .ok (.iload_n 2, 1) := by decide +kernel
theorem dX5_answer_12 : decode cX5_answer 12 = .ok (.invokevirtual 69, 3) := by decide +kernel
theorem dX5_answer_15 : decode cX5_answer 15 = .ok (.aload_n 0, 1) := by decide +kernel
theorem dX5_answer_16 : decode cX5_answer 16 = .ok (.getfield 50, 3) := by decide +kernel
theorem dX5_answer_19 : decode cX5_answer 19 = .ok (.iload_n 1, 1) := by decide +kernel
theorem dX5_answer_20 : decode cX5_answer 20 = .ok (.iaload, 1) := by decide +kernel
theorem dX5_answer_21 : decode cX5_answer 21 = .ok (.iload_n 2, 1) := by decide +kernel
theorem dX5_answer_22 : decode cX5_answer 22 = .ok (.if_icmp .ne 5, 3) := by decide +kernel
theorem dX5_answer_25 : decode cX5_answer 25 = .ok (.iconst 0, 1) := by decide +kernel
theorem dX5_answer_26 : decode cX5_answer 26 = .ok (.ireturn, 1) := by decide +kernel
theorem dX5_answer_27 : decode cX5_answer 27 = .ok (.aload_n 0, 1) := by decide +kernel
theorem dX5_answer_28 : decode cX5_answer 28 = .ok (.getfield 50, 3) := by decide +kernel
theorem dX5_answer_31 : decode cX5_answer 31 = .ok (.iload_n 1, 1) := by decide +kernel
theorem dX5_answer_32 : decode cX5_answer 32 = .ok (.iload_n 2, 1) := by decide +kernel
theorem dX5_answer_33 : decode cX5_answer 33 = .ok (.iastore, 1) := by decide +kernel
theorem dX5_answer_34 : decode cX5_answer 34 = .ok (.iconst 1, 1) := by decide +kernel
theorem dX5_answer_35 : decode cX5_answer 35 = .ok (.ireturn, 1) := by decide +kernel
set_option maxRecDepth 20000 in
theorem ggX5_test_X5_needRule : GoodIn wsX5_test wsX5_needRule := goodIn_r _ [7, 1, 8, 9, 10, 11, 12, 13, 14, 15, 16, 67, 68, 69, 70, 71, 72, 73, 74, 75, 76, 77, 78, 79, 80, 81, 82, 83, 84, 85] (by decide +kernel) (by decide +kernel)
set_option maxRecDepth 20000 in
theorem gX5_test_X5_needRule : GoodIn wsX5_test (wsV RX5 58 RX5 yX5_needRule wsX5_needRule) := goodIn_app (goodIn_of _ (by decide +kernel)) ggX5_test_X5_needRule
set_option maxRecDepth 20000 in
theorem ggX5_test_X3_allSaid : GoodIn wsX5_test wsX3_allSaid := goodIn_r _ [20, 21, 22, 23, 24, 14, 25, 26, 79, 80, 81, 82, 83, 84, 85] (by decide +kernel) (by decide +kernel)
set_option maxRecDepth 20000 in
theorem gX5_test_X3_allSaid : GoodIn wsX5_test (wsV RX5 72 RX3 yX3_allSaid wsX3_allSaid) := goodIn_app (goodIn_of _ (by decide +kernel)) ggX5_test_X3_allSaid
set_option maxRecDepth 20000 in
theorem ggX5_test_X3_meets : GoodIn wsX5_test wsX3_meets := goodIn_r _ [30, 31, 32, 21, 33, 34, 35, 36, 14, 37, 22, 23, 24, 25, 26, 38, 39, 40, 41, 42, 43, 44, 45, 46, 47, 48, 49, 50, 51, 52, 53, 54, 55, 56, 57, 58, 59, 60, 61, 62, 63, 64, 65, 66, 79, 80, 81, 82, 83, 84, 85, 86, 87, 88, 89, 90] (by decide +kernel) (by decide +kernel)
set_option maxRecDepth 20000 in
theorem gX5_test_X3_meets : GoodIn wsX5_test (wsV RX5 76 RX3 yX3_meets wsX3_meets) := goodIn_app (goodIn_of _ (by decide +kernel)) ggX5_test_X3_meets
theorem dX5_test_0 : decode cX5_test 0 = .ok (.aload_n 0, 1) := by decide +kernel
theorem dX5_test_1 : decode cX5_test 1 = .ok (.iload_n 1, 1) := by decide +kernel
theorem dX5_test_2 : decode cX5_test 2 = .ok (.invokevirtual 58, 3) := by decide +kernel
theorem dX5_test_5 : decode cX5_test 5 = .ok (.aload_n 0, 1) := by decide +kernel
theorem dX5_test_6 : decode cX5_test 6 = .ok (.getfield 23, 3) := by decide +kernel
theorem dX5_test_9 : decode cX5_test 9 = .ok (.iload_n 1, 1) := by decide +kernel
theorem dX5_test_10 : decode cX5_test 10 = .ok (.aload_n 0, 1) := by decide +kernel
theorem dX5_test_11 : decode cX5_test 11 = .ok (.getfield 50, 3) := by decide +kernel
theorem dX5_test_14 : decode cX5_test 14 = .ok (.invokevirtual 72, 3) := by decide +kernel
theorem dX5_test_17 : decode cX5_test 17 = .ok (.ifCond .ne 5, 3) := by decide +kernel
theorem dX5_test_20 : decode cX5_test 20 = .ok (.iconst (-1), 1) := by decide +kernel
theorem dX5_test_21 : decode cX5_test 21 = .ok (.ireturn, 1) := by decide +kernel
theorem dX5_test_22 : decode cX5_test 22 = .ok (.aload_n 0, 1) := by decide +kernel
theorem dX5_test_23 : decode cX5_test 23 = .ok (.getfield 23, 3) := by decide +kernel
theorem dX5_test_26 : decode cX5_test 26 = .ok (.iload_n 1, 1) := by decide +kernel
theorem dX5_test_27 : decode cX5_test 27 = .ok (.aload_n 0, 1) := by decide +kernel
theorem dX5_test_28 : decode cX5_test 28 = .ok (.getfield 50, 3) := by decide +kernel
theorem dX5_test_31 : decode cX5_test 31 = .ok (.invokevirtual 76, 3) := by decide +kernel
theorem dX5_test_34 : decode cX5_test 34 = .ok (.ifCond .eq 7, 3) := by decide +kernel
theorem dX5_test_37 : decode cX5_test 37 = .ok (.iconst 1, 1) := by decide +kernel
theorem dX5_test_38 : decode cX5_test 38 = .ok (.goto 4, 3) := by decide +kernel
theorem dX5_test_41 : decode cX5_test 41 = .ok (.iconst 0, 1) := by decide +kernel
theorem dX5_test_42 : decode cX5_test 42 = .ok (.ireturn, 1) := by decide +kernel
set_option maxRecDepth 20000 in
theorem ggX5_fails_X3_count : GoodIn wsX5_fails wsX3_count := goodIn_r _ [7, 8, 65, 66, 67, 68, 69, 70, 71] (by decide +kernel) (by decide +kernel)
set_option maxRecDepth 20000 in
theorem gX5_fails_X3_count : GoodIn wsX5_fails (wsV RX5 79 RX3 yX3_count wsX3_count) := goodIn_app (goodIn_of _ (by decide +kernel)) ggX5_fails_X3_count
set_option maxRecDepth 20000 in
theorem ggX5_fails_X3_allSaid : GoodIn wsX5_fails wsX3_allSaid := goodIn_r _ [12, 13, 14, 15, 16, 6, 17, 18, 65, 66, 67, 68, 69, 70, 71] (by decide +kernel) (by decide +kernel)
set_option maxRecDepth 20000 in
theorem gX5_fails_X3_allSaid : GoodIn wsX5_fails (wsV RX5 72 RX3 yX3_allSaid wsX3_allSaid) := goodIn_app (goodIn_of _ (by decide +kernel)) ggX5_fails_X3_allSaid
set_option maxRecDepth 20000 in
theorem ggX5_fails_X3_meets : GoodIn wsX5_fails wsX3_meets := goodIn_r _ [22, 23, 24, 13, 25, 26, 27, 28, 6, 29, 14, 15, 16, 17, 18, 30, 31, 32, 33, 34, 35, 36, 37, 38, 39, 40, 41, 42, 43, 44, 45, 46, 47, 48, 49, 50, 51, 52, 53, 54, 55, 56, 57, 58, 65, 66, 67, 68, 69, 70, 71, 72, 73, 74, 75, 76] (by decide +kernel) (by decide +kernel)
set_option maxRecDepth 20000 in
theorem gX5_fails_X3_meets : GoodIn wsX5_fails (wsV RX5 76 RX3 yX3_meets wsX3_meets) := goodIn_app (goodIn_of _ (by decide +kernel)) ggX5_fails_X3_meets
theorem dX5_fails_0 : decode cX5_fails 0 = .ok (.iconst 0, 1) := by decide +kernel
theorem dX5_fails_1 : decode cX5_fails 1 = .ok (.istore_n 1, 1) := by decide +kernel
theorem dX5_fails_2 : decode cX5_fails 2 = .ok (.iload_n 1, 1) := by decide +kernel
theorem dX5_fails_3 : decode cX5_fails 3 = .ok (.aload_n 0, 1) := by decide +kernel
theorem dX5_fails_4 : decode cX5_fails 4 = .ok (.getfield 23, 3) := by decide +kernel
theorem dX5_fails_7 : decode cX5_fails 7 = .ok (.invokevirtual 79, 3) := by decide +kernel
theorem dX5_fails_10 : decode cX5_fails 10 = .ok (.if_icmp .ge 41, 3) := by decide +kernel
theorem dX5_fails_13 : decode cX5_fails 13 = .ok (.aload_n 0, 1) := by decide +kernel
theorem dX5_fails_14 : decode cX5_fails 14 = .ok (.getfield 23, 3) := by decide +kernel
theorem dX5_fails_17 : decode cX5_fails 17 = .ok (.iload_n 1, 1) := by decide +kernel
theorem dX5_fails_18 : decode cX5_fails 18 = .ok (.aload_n 0, 1) := by decide +kernel
theorem dX5_fails_19 : decode cX5_fails 19 = .ok (.getfield 50, 3) := by decide +kernel
theorem dX5_fails_22 : decode cX5_fails 22 = .ok (.invokevirtual 72, 3) := by decide +kernel
theorem dX5_fails_25 : decode cX5_fails 25 = .ok (.ifCond .eq 18, 3) := by decide +kernel
theorem dX5_fails_28 : decode cX5_fails 28 = .ok (.aload_n 0, 1) := by decide +kernel
theorem dX5_fails_29 : decode cX5_fails 29 = .ok (.getfield 23, 3) := by decide +kernel
theorem dX5_fails_32 : decode cX5_fails 32 = .ok (.iload_n 1, 1) := by decide +kernel
theorem dX5_fails_33 : decode cX5_fails 33 = .ok (.aload_n 0, 1) := by decide +kernel
theorem dX5_fails_34 : decode cX5_fails 34 = .ok (.getfield 50, 3) := by decide +kernel
theorem dX5_fails_37 : decode cX5_fails 37 = .ok (.invokevirtual 76, 3) := by decide +kernel
theorem dX5_fails_40 : decode cX5_fails 40 = .ok (.ifCond .ne 5, 3) := by decide +kernel
theorem dX5_fails_43 : decode cX5_fails 43 = .ok (.iload_n 1, 1) := by decide +kernel
theorem dX5_fails_44 : decode cX5_fails 44 = .ok (.ireturn, 1) := by decide +kernel
theorem dX5_fails_45 : decode cX5_fails 45 = .ok (.iinc 1 1, 3) := by decide +kernel
theorem dX5_fails_48 : decode cX5_fails 48 = .ok (.goto (-46), 3) := by decide +kernel
theorem dX5_fails_51 : decode cX5_fails 51 = .ok (.iconst (-1), 1) := by decide +kernel
theorem dX5_fails_52 : decode cX5_fails 52 = .ok (.ireturn, 1) := by decide +kernel
set_option maxRecDepth 20000 in
theorem ggX5_line_X1_isFull : GoodIn wsX5_line wsX1_isFull := goodIn_r _ [6, 7, 30, 31, 32, 33, 34] (by decide +kernel) (by decide +kernel)
set_option maxRecDepth 20000 in
theorem gX5_line_X1_isFull : GoodIn wsX5_line (wsV RX5 83 RX1 yX1_isFull wsX1_isFull) := goodIn_app (goodIn_of _ (by decide +kernel)) ggX5_line_X1_isFull
set_option maxRecDepth 20000 in
theorem ggX5_line_X1_startDraft : GoodIn wsX5_line wsX1_startDraft := goodIn_r _ [11, 12, 7, 13, 14, 30, 31, 32, 33, 34] (by decide +kernel) (by decide +kernel)
set_option maxRecDepth 20000 in
theorem gX5_line_X1_startDraft : GoodIn wsX5_line (wsV RX5 87 RX1 yX1_startDraft wsX1_startDraft) := goodIn_app (goodIn_of _ (by decide +kernel)) ggX5_line_X1_startDraft
set_option maxRecDepth 20000 in
theorem ggX5_line_X1_keepDraft : GoodIn wsX5_line wsX1_keepDraft := goodIn_r _ [18, 7, 19, 3, 4, 5, 6, 30, 31, 32, 33, 34] (by decide +kernel) (by decide +kernel)
set_option maxRecDepth 20000 in
theorem gX5_line_X1_keepDraft : GoodIn wsX5_line (wsV RX5 91 RX1 yX1_keepDraft wsX1_keepDraft) := goodIn_app (goodIn_of _ (by decide +kernel)) ggX5_line_X1_keepDraft
set_option maxRecDepth 20000 in
theorem ggX5_line_X1_count : GoodIn wsX5_line wsX1_count := goodIn_r _ [23, 7, 30, 31, 32, 33, 34] (by decide +kernel) (by decide +kernel)
set_option maxRecDepth 20000 in
theorem gX5_line_X1_count : GoodIn wsX5_line (wsV RX5 94 RX1 yX1_count wsX1_count) := goodIn_app (goodIn_of _ (by decide +kernel)) ggX5_line_X1_count
theorem dX5_line_0 : decode cX5_line 0 = .ok (.iload_n 1, 1) := by decide +kernel
theorem dX5_line_1 : decode cX5_line 1 = .ok (.ifCond .lt 18, 3) := by decide +kernel
theorem dX5_line_4 : decode cX5_line 4 = .ok (.iload_n 1, 1) := by decide +kernel
theorem dX5_line_5 : decode cX5_line 5 = .ok (.iconst 3, 1) := by decide +kernel
theorem dX5_line_6 : decode cX5_line 6 = .ok (.if_icmp .gt 13, 3) := by decide +kernel
theorem dX5_line_9 : decode cX5_line 9 = .ok (.aload_n 0, 1) := by decide +kernel
theorem dX5_line_10 : decode cX5_line 10 = .ok (.getfield 30, 3) := by decide +kernel
theorem dX5_line_13 : decode cX5_line 13 = .ok (.invokevirtual 83, 3) := by decide +kernel
theorem dX5_line_16 : decode cX5_line 16 = .ok (.ifCond .eq 5, 3) := by decide +kernel
theorem dX5_line_19 : decode cX5_line 19 = .ok (.iconst (-1), 1) := by decide +kernel
theorem dX5_line_20 : decode cX5_line 20 = .ok (.ireturn, 1) := by decide +kernel
theorem dX5_line_21 : decode cX5_line 21 = .ok (.aload_n 0, 1) := by decide +kernel
theorem dX5_line_22 : decode cX5_line 22 = .ok (.getfield 30, 3) := by decide +kernel
theorem dX5_line_25 : decode cX5_line 25 = .ok (.iload_n 1, 1) := by decide +kernel
theorem dX5_line_26 : decode cX5_line 26 = .ok (.iload_n 2, 1) := by decide +kernel
theorem dX5_line_27 : decode cX5_line 27 = .ok (.invokevirtual 87, 3) := by decide +kernel
theorem dX5_line_30 : decode cX5_line 30 = .ok (.aload_n 0, 1) := by decide +kernel
theorem dX5_line_31 : decode cX5_line 31 = .ok (.getfield 30, 3) := by decide +kernel
theorem dX5_line_34 : decode cX5_line 34 = .ok (.invokevirtual 91, 3) := by decide +kernel
theorem dX5_line_37 : decode cX5_line 37 = .ok (.pop, 1) := by decide +kernel
theorem dX5_line_38 : decode cX5_line 38 = .ok (.aload_n 0, 1) := by decide +kernel
theorem dX5_line_39 : decode cX5_line 39 = .ok (.getfield 30, 3) := by decide +kernel
theorem dX5_line_42 : decode cX5_line 42 = .ok (.invokevirtual 94, 3) := by decide +kernel
theorem dX5_line_45 : decode cX5_line 45 = .ok (.iconst 1, 1) := by decide +kernel
theorem dX5_line_46 : decode cX5_line 46 = .ok (.isub, 1) := by decide +kernel
theorem dX5_line_47 : decode cX5_line 47 = .ok (.ireturn, 1) := by decide +kernel
set_option maxRecDepth 20000 in
theorem ggX5_literal_X5_needCell : GoodIn wsX5_literal wsX5_needCell := goodIn_r _ [6, 7, 8, 9, 10, 11, 12, 13, 14, 15, 16, 51, 52, 53, 54, 55, 56, 57, 58, 59, 60, 61, 62, 63, 64, 65, 66, 67] (by decide +kernel) (by decide +kernel)
set_option maxRecDepth 20000 in
theorem gX5_literal_X5_needCell : GoodIn wsX5_literal (wsV RX5 62 RX5 yX5_needCell wsX5_needCell) := goodIn_app (goodIn_of _ (by decide +kernel)) ggX5_literal_X5_needCell
set_option maxRecDepth 20000 in
theorem ggX5_literal_X5_needSymbol : GoodIn wsX5_literal wsX5_needSymbol := goodIn_ca (goodIn_r _ [20, 21, 22, 7, 23, 24, 25, 14, 26, 27, 51, 52, 53, 54, 55, 56, 63, 64, 65, 66, 67] (by decide +kernel) (by decide +kernel)) (goodIn_sub (fun _ h => List.mem_cons_of_mem _ (List.mem_append_right _ h)) (by decide +kernel))
set_option maxRecDepth 20000 in
theorem gX5_literal_X5_needSymbol : GoodIn wsX5_literal (wsV RX5 69 RX5 yX5_needSymbol wsX5_needSymbol) := goodIn_app (goodIn_of _ (by decide +kernel)) ggX5_literal_X5_needSymbol
set_option maxRecDepth 20000 in
theorem ggX5_literal_X1_count : GoodIn wsX5_literal wsX1_count := goodIn_r _ [32, 33, 68, 69, 70, 71, 72] (by decide +kernel) (by decide +kernel)
set_option maxRecDepth 20000 in
theorem gX5_literal_X1_count : GoodIn wsX5_literal (wsV RX5 94 RX1 yX1_count wsX1_count) := goodIn_app (goodIn_of _ (by decide +kernel)) ggX5_literal_X1_count
set_option maxRecDepth 20000 in
theorem ggX5_literal_X1_literalOf : GoodIn wsX5_literal wsX1_literalOf := goodIn_r _ [36] (by decide +kernel) (by decide +kernel)
set_option maxRecDepth 20000 in
theorem gX5_literal_X1_literalOf : GoodIn wsX5_literal (va_wsS RX5 95 yX1_literalOf wsX1_literalOf) := goodIn_app (goodIn_of _ (by decide +kernel)) ggX5_literal_X1_literalOf
set_option maxRecDepth 20000 in
theorem ggX5_literal_X1_addLiteral : GoodIn wsX5_literal wsX1_addLiteral := goodIn_r _ [40, 41, 42, 43, 44, 45, 31, 46, 47, 48, 49, 50, 68, 69, 70, 71, 72] (by decide +kernel) (by decide +kernel)
set_option maxRecDepth 20000 in
theorem gX5_literal_X1_addLiteral : GoodIn wsX5_literal (wsV RX5 99 RX1 yX1_addLiteral wsX1_addLiteral) := goodIn_app (goodIn_of _ (by decide +kernel)) ggX5_literal_X1_addLiteral
theorem dX5_literal_0 : decode cX5_literal 0 = .ok (.aload_n 0, 1) := by decide +kernel
theorem dX5_literal_1 : decode cX5_literal 1 = .ok (.iload_n 1, 1) := by decide +kernel
theorem dX5_literal_2 : decode cX5_literal 2 = .ok (.invokevirtual 62, 3) := by decide +kernel
theorem dX5_literal_5 : decode cX5_literal 5 = .ok (.aload_n 0, 1) := by decide +kernel
theorem dX5_literal_6 : decode cX5_literal 6 = .ok (.iload_n 2, 1) := by decide +kernel
theorem dX5_literal_7 : decode cX5_literal 7 = .ok (.invokevirtual 69, 3) := by decide +kernel
theorem dX5_literal_10 : decode cX5_literal 10 = .ok (.aload_n 0, 1) := by decide +kernel
theorem dX5_literal_11 : decode cX5_literal 11 = .ok (.getfield 30, 3) := by decide +kernel
theorem dX5_literal_14 : decode cX5_literal 14 = .ok (.invokevirtual 94, 3) := by decide +kernel
theorem dX5_literal_17 : decode cX5_literal 17 = .ok (.ifCond .ne 5, 3) := by decide +kernel
theorem dX5_literal_20 : decode cX5_literal 20 = .ok (.iconst 0, 1) := by decide +kernel
theorem dX5_literal_21 : decode cX5_literal 21 = .ok (.ireturn, 1) := by decide +kernel
theorem dX5_literal_22 : decode cX5_literal 22 = .ok (.aload_n 0, 1) := by decide +kernel
theorem dX5_literal_23 : decode cX5_literal 23 = .ok (.getfield 30, 3) := by decide +kernel
theorem dX5_literal_26 : decode cX5_literal 26 = .ok (.aload_n 0, 1) := by decide +kernel
theorem dX5_literal_27 : decode cX5_literal 27 = .ok (.getfield 30, 3) := by decide +kernel
theorem dX5_literal_30 : decode cX5_literal 30 = .ok (.invokevirtual 94, 3) := by decide +kernel
theorem dX5_literal_33 : decode cX5_literal 33 = .ok (.iconst 1, 1) := by decide +kernel
theorem dX5_literal_34 : decode cX5_literal 34 = .ok (.isub, 1) := by decide +kernel
theorem dX5_literal_35 : decode cX5_literal 35 = .ok (.iload_n 1, 1) := by decide +kernel
theorem dX5_literal_36 : decode cX5_literal 36 = .ok (.iload_n 2, 1) := by decide +kernel
theorem dX5_literal_37 : decode cX5_literal 37 = .ok (.iload_n 3, 1) := by decide +kernel
theorem dX5_literal_38 : decode cX5_literal 38 = .ok (.invokestatic 95, 3) := by decide +kernel
theorem dX5_literal_41 : decode cX5_literal 41 = .ok (.invokevirtual 99, 3) := by decide +kernel
theorem dX5_literal_44 : decode cX5_literal 44 = .ok (.ireturn, 1) := by decide +kernel
set_option maxRecDepth 20000 in
theorem ggX5_drop_X1_count : GoodIn wsX5_drop wsX1_count := goodIn_r _ [6, 7, 18, 19, 20, 21, 22] (by decide +kernel) (by decide +kernel)
set_option maxRecDepth 20000 in
theorem gX5_drop_X1_count : GoodIn wsX5_drop (wsV RX5 94 RX1 yX1_count wsX1_count) := goodIn_app (goodIn_of _ (by decide +kernel)) ggX5_drop_X1_count
set_option maxRecDepth 20000 in
theorem ggX5_drop_X1_cutTo : GoodIn wsX5_drop wsX1_cutTo := goodIn_r _ [11, 7, 18, 19, 20, 21, 22] (by decide +kernel) (by decide +kernel)
set_option maxRecDepth 20000 in
theorem gX5_drop_X1_cutTo : GoodIn wsX5_drop (wsV RX5 102 RX1 yX1_cutTo wsX1_cutTo) := goodIn_app (goodIn_of _ (by decide +kernel)) ggX5_drop_X1_cutTo
theorem dX5_drop_0 : decode cX5_drop 0 = .ok (.aload_n 0, 1) := by decide +kernel
theorem dX5_drop_1 : decode cX5_drop 1 = .ok (.getfield 30, 3) := by decide +kernel
theorem dX5_drop_4 : decode cX5_drop 4 = .ok (.invokevirtual 94, 3) := by decide +kernel
theorem dX5_drop_7 : decode cX5_drop 7 = .ok (.ifCond .ne 5, 3) := by decide +kernel
theorem dX5_drop_10 : decode cX5_drop 10 = .ok (.iconst 0, 1) := by decide +kernel
theorem dX5_drop_11 : decode cX5_drop 11 = .ok (.ireturn, 1) := by decide +kernel
theorem dX5_drop_12 : decode cX5_drop 12 = .ok (.aload_n 0, 1) := by decide +kernel
theorem dX5_drop_13 : decode cX5_drop 13 = .ok (.getfield 30, 3) := by decide +kernel
theorem dX5_drop_16 : decode cX5_drop 16 = .ok (.aload_n 0, 1) := by decide +kernel
theorem dX5_drop_17 : decode cX5_drop 17 = .ok (.getfield 30, 3) := by decide +kernel
theorem dX5_drop_20 : decode cX5_drop 20 = .ok (.invokevirtual 94, 3) := by decide +kernel
theorem dX5_drop_23 : decode cX5_drop 23 = .ok (.iconst 1, 1) := by decide +kernel
theorem dX5_drop_24 : decode cX5_drop 24 = .ok (.isub, 1) := by decide +kernel
theorem dX5_drop_25 : decode cX5_drop 25 = .ok (.invokevirtual 102, 3) := by decide +kernel
theorem dX5_drop_28 : decode cX5_drop 28 = .ok (.iconst 1, 1) := by decide +kernel
theorem dX5_drop_29 : decode cX5_drop 29 = .ok (.ireturn, 1) := by decide +kernel
set_option maxRecDepth 20000 in
theorem ggX5_check_X1_count : GoodIn wsX5_check wsX1_count := goodIn_r _ [6, 7, 213, 214, 215, 216, 217] (by decide +kernel) (by decide +kernel)
set_option maxRecDepth 20000 in
theorem gX5_check_X1_count : GoodIn wsX5_check (wsV RX5 94 RX1 yX1_count wsX1_count) := goodIn_app (goodIn_of _ (by decide +kernel)) ggX5_check_X1_count
set_option maxRecDepth 20000 in
theorem ggX5_check_X5_followsFromLinesAhead : GoodIn wsX5_check wsX5_followsFromLinesAhead := goodIn_r _ [12, 1, 13, 14, 15, 16, 17, 18, 5, 19, 20, 21, 22, 23, 24, 25, 26, 27, 28, 29, 30, 31, 32, 33, 34, 11, 35, 36, 37, 38, 39, 40, 41, 42, 43, 44, 45, 46, 47, 48, 49, 50, 51, 52, 53, 54, 55, 56, 57, 58, 59, 60, 61, 62, 63, 64, 65, 66, 67, 68, 69, 70, 71, 72, 73, 74, 75, 76, 77, 78, 79, 80, 81, 82, 83, 84, 85, 86, 87, 88, 89, 90, 91, 92, 93, 94, 95, 96, 97, 98, 99, 100, 101, 102, 103, 104, 105, 106, 107, 108, 109, 110, 111, 112, 113, 114, 115, 116, 117, 118, 119, 120, 121, 122, 123, 124, 125, 126, 127, 128, 129, 130, 131, 132, 133, 134, 135, 136, 137, 138, 139, 140, 141, 142, 143, 144, 145, 146, 147, 148, 149, 150, 151, 152, 153, 154, 155, 156, 157, 158, 159, 160, 161, 162, 163, 164, 165, 166, 167, 168, 169, 170, 171, 172, 173, 174, 175, 176, 177, 178, 179, 180, 181, 182, 183, 184, 185, 186, 187, 188, 189, 190, 191, 192, 193, 194, 195, 196, 197, 198, 199, 200, 201, 202, 203, 204, 205, 206, 207, 208, 209, 210, 211, 212, 213, 214, 215, 216, 217, 218, 219, 220, 221, 222, 223, 224, 225, 226, 227, 228, 229, 230, 231, 232, 233] (by decide +kernel) (by decide +kernel)
set_option maxRecDepth 20000 in
theorem gX5_check_X5_followsFromLinesAhead : GoodIn wsX5_check (wsV RX5 105 RX5 yX5_followsFromLinesAhead wsX5_followsFromLinesAhead) := goodIn_app (goodIn_of _ (by decide +kernel)) ggX5_check_X5_followsFromLinesAhead
theorem dX5_check_0 : decode cX5_check 0 = .ok (.iconst 0, 1) := by decide +kernel
theorem dX5_check_1 : decode cX5_check 1 = .ok (.istore_n 1, 1) := by decide +kernel
theorem dX5_check_2 : decode cX5_check 2 = .ok (.iload_n 1, 1) := by decide +kernel
theorem dX5_check_3 : decode cX5_check 3 = .ok (.aload_n 0, 1) := by decide +kernel
theorem dX5_check_4 : decode cX5_check 4 = .ok (.getfield 30, 3) := by decide +kernel
theorem dX5_check_7 : decode cX5_check 7 = .ok (.invokevirtual 94, 3) := by decide +kernel
theorem dX5_check_10 : decode cX5_check 10 = .ok (.if_icmp .ge 17, 3) := by decide +kernel
theorem dX5_check_13 : decode cX5_check 13 = .ok (.aload_n 0, 1) := by decide +kernel
theorem dX5_check_14 : decode cX5_check 14 = .ok (.iload_n 1, 1) := by decide +kernel
theorem dX5_check_15 : decode cX5_check 15 = .ok (.invokevirtual 105, 3) := by decide +kernel
theorem dX5_check_18 : decode cX5_check 18 = .ok (.ifCond .eq 9, 3) := by decide +kernel
theorem dX5_check_21 : decode cX5_check 21 = .ok (.iinc 1 1, 3) := by decide +kernel
theorem dX5_check_24 : decode cX5_check 24 = .ok (.goto (-22), 3) := by decide +kernel
theorem dX5_check_27 : decode cX5_check 27 = .ok (.iload_n 1, 1) := by decide +kernel
theorem dX5_check_28 : decode cX5_check 28 = .ok (.ireturn, 1) := by decide +kernel
set_option maxRecDepth 20000 in
theorem ggX5_proves_X1_count : GoodIn wsX5_proves wsX1_count := goodIn_r _ [6, 7, 213, 214, 215, 216, 217] (by decide +kernel) (by decide +kernel)
set_option maxRecDepth 20000 in
theorem gX5_proves_X1_count : GoodIn wsX5_proves (wsV RX5 94 RX1 yX1_count wsX1_count) := goodIn_app (goodIn_of _ (by decide +kernel)) ggX5_proves_X1_count
set_option maxRecDepth 20000 in
theorem ggX5_proves_X1_sizeOf : GoodIn wsX5_proves wsX1_sizeOf := goodIn_r _ [11, 12, 213, 214, 215, 216, 217] (by decide +kernel) (by decide +kernel)
set_option maxRecDepth 20000 in
theorem gX5_proves_X1_sizeOf : GoodIn wsX5_proves (wsV RX5 109 RX1 yX1_sizeOf wsX1_sizeOf) := goodIn_app (goodIn_of _ (by decide +kernel)) ggX5_proves_X1_sizeOf
set_option maxRecDepth 20000 in
theorem ggX5_proves_X5_followsFromLinesAhead : GoodIn wsX5_proves wsX5_followsFromLinesAhead := goodIn_r _ [17, 1, 18, 19, 20, 21, 22, 23, 5, 24, 25, 26, 27, 28, 29, 30, 31, 32, 33, 34, 35, 36, 37, 38, 39, 16, 40, 41, 42, 43, 44, 45, 46, 47, 48, 49, 50, 51, 52, 53, 54, 55, 56, 57, 58, 59, 60, 61, 62, 63, 64, 65, 66, 67, 68, 69, 70, 71, 72, 73, 74, 9, 10, 11, 12, 75, 76, 77, 78, 79, 80, 81, 82, 83, 84, 85, 86, 87, 88, 89, 90, 91, 92, 93, 94, 95, 96, 97, 98, 99, 100, 101, 102, 103, 104, 105, 106, 107, 108, 109, 110, 111, 112, 113, 114, 115, 116, 117, 118, 119, 120, 121, 122, 123, 124, 125, 126, 127, 128, 129, 130, 131, 132, 133, 134, 135, 136, 137, 138, 139, 140, 141, 142, 143, 144, 145, 146, 147, 148, 149, 150, 151, 152, 153, 154, 155, 156, 157, 158, 159, 160, 161, 162, 163, 164, 165, 166, 167, 168, 169, 170, 171, 172, 173, 174, 175, 176, 177, 178, 179, 180, 181, 182, 183, 8, 184, 185, 186, 187, 188, 189, 190, 191, 192, 193, 194, 195, 196, 197, 198, 199, 200, 201, 202, 203, 204, 205, 206, 207, 208, 209, 210, 211, 212, 213, 214, 215, 216, 217, 218, 219, 220, 221, 222, 223, 224, 225, 226, 227, 228, 229, 230, 231, 232, 233] (by decide +kernel) (by decide +kernel)
set_option maxRecDepth 20000 in
theorem gX5_proves_X5_followsFromLinesAhead : GoodIn wsX5_proves (wsV RX5 105 RX5 yX5_followsFromLinesAhead wsX5_followsFromLinesAhead) := goodIn_app (goodIn_of _ (by decide +kernel)) ggX5_proves_X5_followsFromLinesAhead
set_option maxRecDepth 20000 in
theorem ggX5_proves_X1_kindOf : GoodIn wsX5_proves wsX1_kindOf := goodIn_r _ [29, 30, 213, 214, 215, 216, 217] (by decide +kernel) (by decide +kernel)
set_option maxRecDepth 20000 in
theorem gX5_proves_X1_kindOf : GoodIn wsX5_proves (wsV RX5 113 RX1 yX1_kindOf wsX1_kindOf) := goodIn_app (goodIn_of _ (by decide +kernel)) ggX5_proves_X1_kindOf
theorem dX5_proves_0 : decode cX5_proves 0 = .ok (.aload_n 0, 1) := by decide +kernel
theorem dX5_proves_1 : decode cX5_proves 1 = .ok (.getfield 30, 3) := by decide +kernel
theorem dX5_proves_4 : decode cX5_proves 4 = .ok (.invokevirtual 94, 3) := by decide +kernel
theorem dX5_proves_7 : decode cX5_proves 7 = .ok (.istore_n 1, 1) := by decide +kernel
theorem dX5_proves_8 : decode cX5_proves 8 = .ok (.iload_n 1, 1) := by decide +kernel
theorem dX5_proves_9 : decode cX5_proves 9 = .ok (.ifCond .eq 16, 3) := by decide +kernel
theorem dX5_proves_12 : decode cX5_proves 12 = .ok (.aload_n 0, 1) := by decide +kernel
theorem dX5_proves_13 : decode cX5_proves 13 = .ok (.getfield 30, 3) := by decide +kernel
theorem dX5_proves_16 : decode cX5_proves 16 = .ok (.iload_n 1, 1) := by decide +kernel
theorem dX5_proves_17 : decode cX5_proves 17 = .ok (.iconst 1, 1) := by decide +kernel
theorem dX5_proves_18 : decode cX5_proves 18 = .ok (.isub, 1) := by decide +kernel
theorem dX5_proves_19 : decode cX5_proves 19 = .ok (.invokevirtual 109, 3) := by decide +kernel
theorem dX5_proves_22 : decode cX5_proves 22 = .ok (.ifCond .eq 5, 3) := by decide +kernel
theorem dX5_proves_25 : decode cX5_proves 25 = .ok (.iconst 0, 1) := by decide +kernel
theorem dX5_proves_26 : decode cX5_proves 26 = .ok (.ireturn, 1) := by decide +kernel
theorem dX5_proves_27 : decode cX5_proves 27 = .ok (.iconst 1, 1) := by decide +kernel
theorem dX5_proves_28 : decode cX5_proves 28 = .ok (.istore_n 2, 1) := by decide +kernel
theorem dX5_proves_29 : decode cX5_proves 29 = .ok (.iconst 0, 1) := by decide +kernel
theorem dX5_proves_30 : decode cX5_proves 30 = .ok (.istore_n 3, 1) := by decide +kernel
theorem dX5_proves_31 : decode cX5_proves 31 = .ok (.iload_n 3, 1) := by decide +kernel
theorem dX5_proves_32 : decode cX5_proves 32 = .ok (.iload_n 1, 1) := by decide +kernel
theorem dX5_proves_33 : decode cX5_proves 33 = .ok (.if_icmp .ge 33, 3) := by decide +kernel
theorem dX5_proves_36 : decode cX5_proves 36 = .ok (.aload_n 0, 1) := by decide +kernel
theorem dX5_proves_37 : decode cX5_proves 37 = .ok (.iload_n 3, 1) := by decide +kernel
theorem dX5_proves_38 : decode cX5_proves 38 = .ok (.invokevirtual 105, 3) := by decide +kernel
theorem dX5_proves_41 : decode cX5_proves 41 = .ok (.ifCond .ne 5, 3) := by decide +kernel
theorem dX5_proves_44 : decode cX5_proves 44 = .ok (.iconst 0, 1) := by decide +kernel
theorem dX5_proves_45 : decode cX5_proves 45 = .ok (.ireturn, 1) := by decide +kernel
theorem dX5_proves_46 : decode cX5_proves 46 = .ok (.aload_n 0, 1) := by decide +kernel
theorem dX5_proves_47 : decode cX5_proves 47 = .ok (.getfield 30, 3) := by decide +kernel
theorem dX5_proves_50 : decode cX5_proves 50 = .ok (.iload_n 3, 1) := by decide +kernel
theorem dX5_proves_51 : decode cX5_proves 51 = .ok (.invokevirtual 113, 3) := by decide +kernel
theorem dX5_proves_54 : decode cX5_proves 54 = .ok (.iconst 3, 1) := by decide +kernel
theorem dX5_proves_55 : decode cX5_proves 55 = .ok (.if_icmp .ne 5, 3) := by decide +kernel
theorem dX5_proves_58 : decode cX5_proves 58 = .ok (.iconst 2, 1) := by decide +kernel
theorem dX5_proves_59 : decode cX5_proves 59 = .ok (.istore_n 2, 1) := by decide +kernel
theorem dX5_proves_60 : decode cX5_proves 60 = .ok (.iinc 3 1, 3) := by decide +kernel
theorem dX5_proves_63 : decode cX5_proves 63 = .ok (.goto (-32), 3) := by decide +kernel
theorem dX5_proves_66 : decode cX5_proves 66 = .ok (.iload_n 2, 1) := by decide +kernel
theorem dX5_proves_67 : decode cX5_proves 67 = .ok (.ireturn, 1) := by decide +kernel
set_option maxRecDepth 20000 in
theorem ggX5_tell_X1_count : GoodIn wsX5_tell wsX1_count := goodIn_r _ [9, 10, 64, 65, 66, 67, 68] (by decide +kernel) (by decide +kernel)
set_option maxRecDepth 20000 in
theorem gX5_tell_X1_count : GoodIn wsX5_tell (wsV RX5 94 RX1 yX1_count wsX1_count) := goodIn_app (goodIn_of _ (by decide +kernel)) ggX5_tell_X1_count
set_option maxRecDepth 20000 in
theorem ggX5_tell_X1_kindOf : GoodIn wsX5_tell wsX1_kindOf := goodIn_r _ [14, 15, 64, 65, 66, 67, 68] (by decide +kernel) (by decide +kernel)
set_option maxRecDepth 20000 in
theorem gX5_tell_X1_kindOf : GoodIn wsX5_tell (wsV RX5 113 RX1 yX1_kindOf wsX1_kindOf) := goodIn_app (goodIn_of _ (by decide +kernel)) ggX5_tell_X1_kindOf
set_option maxRecDepth 20000 in
theorem ggX5_tell_X1_numberOf : GoodIn wsX5_tell wsX1_numberOf := goodIn_r _ [19, 20, 64, 65, 66, 67, 68] (by decide +kernel) (by decide +kernel)
set_option maxRecDepth 20000 in
theorem gX5_tell_X1_numberOf : GoodIn wsX5_tell (wsV RX5 123 RX1 yX1_numberOf wsX1_numberOf) := goodIn_app (goodIn_of _ (by decide +kernel)) ggX5_tell_X1_numberOf
set_option maxRecDepth 20000 in
theorem ggX5_tell_X1_sizeOf : GoodIn wsX5_tell wsX1_sizeOf := goodIn_r _ [24, 25, 64, 65, 66, 67, 68] (by decide +kernel) (by decide +kernel)
set_option maxRecDepth 20000 in
theorem gX5_tell_X1_sizeOf : GoodIn wsX5_tell (wsV RX5 109 RX1 yX1_sizeOf wsX1_sizeOf) := goodIn_app (goodIn_of _ (by decide +kernel)) ggX5_tell_X1_sizeOf
set_option maxRecDepth 20000 in
theorem ggX5_tell_X5_toldLiteral : GoodIn wsX5_tell wsX5_toldLiteral := goodIn_r _ [30, 1, 31, 21, 22, 23, 8, 24, 25, 32, 33, 34, 35, 36, 37, 38, 39, 40, 41, 42, 43, 44, 45, 46, 47, 48, 49, 50, 51, 52, 53, 54, 55, 56, 57, 64, 65, 66, 67, 68, 69, 70, 71, 72, 73] (by decide +kernel) (by decide +kernel)
set_option maxRecDepth 20000 in
theorem gX5_tell_X5_toldLiteral : GoodIn wsX5_tell (wsV RX5 126 RX5 yX5_toldLiteral wsX5_toldLiteral) := goodIn_app (goodIn_of _ (by decide +kernel)) ggX5_tell_X5_toldLiteral
theorem dX5_tell_0 : decode cX5_tell 0 = .ok (.iload_n 1, 1) := by decide +kernel
theorem dX5_tell_1 : decode cX5_tell 1 = .ok (.ifCond .lt 14, 3) := by decide +kernel
theorem dX5_tell_4 : decode cX5_tell 4 = .ok (.iload_n 1, 1) := by decide +kernel
theorem dX5_tell_5 : decode cX5_tell 5 = .ok (.aload_n 0, 1) := by decide +kernel
theorem dX5_tell_6 : decode cX5_tell 6 = .ok (.getfield 30, 3) := by decide +kernel
theorem dX5_tell_9 : decode cX5_tell 9 = .ok (.invokevirtual 94, 3) := by decide +kernel
theorem dX5_tell_12 : decode cX5_tell 12 = .ok (.if_icmp .lt 13, 3) := by decide +kernel
theorem dX5_tell_15 : decode cX5_tell 15 = .ok (.new 116, 3) := by decide +kernel
theorem dX5_tell_18 : decode cX5_tell 18 = .ok (.dup, 1) := by decide +kernel
theorem dX5_tell_19 : decode cX5_tell 19 = .ok (.ldc 118, 2) := by decide +kernel
theorem dX5_tell_21 : decode cX5_tell 21 = .ok (.invokespecial 120, 3) := by decide +kernel
theorem dX5_tell_24 : decode cX5_tell 24 = .ok (.athrow, 1) := by decide +kernel
theorem dX5_tell_25 : decode cX5_tell 25 = .ok (.iload_n 2, 1) := by decide +kernel
theorem dX5_tell_26 : decode cX5_tell 26 = .ok (.tableswitch 53 0 2 #[26, 35, 44], 26) := by decide +kernel
theorem dX5_tell_52 : decode cX5_tell 52 = .ok (.aload_n 0, 1) := by decide +kernel
theorem dX5_tell_53 : decode cX5_tell 53 = .ok (.getfield 30, 3) := by decide +kernel
theorem dX5_tell_56 : decode cX5_tell 56 = .ok (.iload_n 1, 1) := by decide +kernel
theorem dX5_tell_57 : decode cX5_tell 57 = .ok (.invokevirtual 113, 3) := by decide +kernel
theorem dX5_tell_60 : decode cX5_tell 60 = .ok (.ireturn, 1) := by decide +kernel
theorem dX5_tell_61 : decode cX5_tell 61 = .ok (.aload_n 0, 1) := by decide +kernel
theorem dX5_tell_62 : decode cX5_tell 62 = .ok (.getfield 30, 3) := by decide +kernel
theorem dX5_tell_65 : decode cX5_tell 65 = .ok (.iload_n 1, 1) := by decide +kernel
theorem dX5_tell_66 : decode cX5_tell 66 = .ok (.invokevirtual 123, 3) := by decide +kernel
theorem dX5_tell_69 : decode cX5_tell 69 = .ok (.ireturn, 1) := by decide +kernel
theorem dX5_tell_70 : decode cX5_tell 70 = .ok (.aload_n 0, 1) := by decide +kernel
theorem dX5_tell_71 : decode cX5_tell 71 = .ok (.getfield 30, 3) := by decide +kernel
theorem dX5_tell_74 : decode cX5_tell 74 = .ok (.iload_n 1, 1) := by decide +kernel
theorem dX5_tell_75 : decode cX5_tell 75 = .ok (.invokevirtual 109, 3) := by decide +kernel
theorem dX5_tell_78 : decode cX5_tell 78 = .ok (.ireturn, 1) := by decide +kernel
theorem dX5_tell_79 : decode cX5_tell 79 = .ok (.aload_n 0, 1) := by decide +kernel
theorem dX5_tell_80 : decode cX5_tell 80 = .ok (.iload_n 1, 1) := by decide +kernel
theorem dX5_tell_81 : decode cX5_tell 81 = .ok (.iload_n 2, 1) := by decide +kernel
theorem dX5_tell_82 : decode cX5_tell 82 = .ok (.invokevirtual 126, 3) := by decide +kernel
theorem dX5_tell_85 : decode cX5_tell 85 = .ok (.ireturn, 1) := by decide +kernel
set_option maxRecDepth 20000 in
theorem ggX5_may_X5_needCell : GoodIn wsX5_may wsX5_needCell := goodIn_r _ [7, 8, 9, 10, 11, 12, 13, 14, 15, 16, 17, 88, 89, 90, 91, 92, 93, 94, 95, 96, 97, 98, 99, 100, 101, 102, 103, 104] (by decide +kernel) (by decide +kernel)
set_option maxRecDepth 20000 in
theorem gX5_may_X5_needCell : GoodIn wsX5_may (wsV RX5 62 RX5 yX5_needCell wsX5_needCell) := goodIn_app (goodIn_of _ (by decide +kernel)) ggX5_may_X5_needCell
set_option maxRecDepth 20000 in
theorem ggX5_may_X4_startWhole : GoodIn wsX5_may wsX4_startWhole := goodIn_r _ [22, 23, 24, 25, 26, 27, 15, 28, 17, 29, 30, 31, 32, 33, 105, 106, 107, 108, 100, 101, 102, 103, 104] (by decide +kernel) (by decide +kernel)
set_option maxRecDepth 20000 in
theorem gX5_may_X4_startWhole : GoodIn wsX5_may (wsV RX5 129 RX4 yX4_startWhole wsX4_startWhole) := goodIn_app (goodIn_of _ (by decide +kernel)) ggX5_may_X4_startWhole
set_option maxRecDepth 20000 in
theorem ggX5_may_X1_count : GoodIn wsX5_may wsX1_count := goodIn_r _ [38, 39, 109, 110, 111, 112, 113] (by decide +kernel) (by decide +kernel)
set_option maxRecDepth 20000 in
theorem gX5_may_X1_count : GoodIn wsX5_may (wsV RX5 94 RX1 yX1_count wsX1_count) := goodIn_app (goodIn_of _ (by decide +kernel)) ggX5_may_X1_count
set_option maxRecDepth 20000 in
theorem ggX5_may_X4_comeToNothing : GoodIn wsX5_may wsX4_comeToNothing := goodIn_r _ [43, 23, 44, 45, 46, 21, 47, 24, 25, 26, 27, 15, 28, 17, 48, 49, 50, 51, 33, 52, 53, 54, 55, 56, 57, 58, 59, 37, 60, 61, 62, 63, 64, 65, 66, 67, 68, 69, 70, 71, 72, 73, 74, 75, 76, 77, 78, 79, 80, 81, 82, 83, 105, 106, 107, 108, 100, 101, 102, 103, 104, 109, 110, 111, 112, 113] (by decide +kernel) (by decide +kernel)
set_option maxRecDepth 20000 in
theorem gX5_may_X4_comeToNothing : GoodIn wsX5_may (wsV RX5 132 RX4 yX4_comeToNothing wsX4_comeToNothing) := goodIn_app (goodIn_of _ (by decide +kernel)) ggX5_may_X4_comeToNothing
set_option maxRecDepth 20000 in
theorem ggX5_may_X4_symbolsOf : GoodIn wsX5_may wsX4_symbolsOf := goodIn_r _ [87, 24, 105, 106, 107, 108] (by decide +kernel) (by decide +kernel)
set_option maxRecDepth 20000 in
theorem gX5_may_X4_symbolsOf : GoodIn wsX5_may (wsV RX5 135 RX4 yX4_symbolsOf wsX4_symbolsOf) := goodIn_app (goodIn_of _ (by decide +kernel)) ggX5_may_X4_symbolsOf
theorem dX5_may_0 : decode cX5_may 0 = .ok (.aload_n 0, 1) := by decide +kernel
theorem dX5_may_1 : decode cX5_may 1 = .ok (.iload_n 1, 1) := by decide +kernel
theorem dX5_may_2 : decode cX5_may 2 = .ok (.invokevirtual 62, 3) := by decide +kernel
theorem dX5_may_5 : decode cX5_may 5 = .ok (.aload_n 0, 1) := by decide +kernel
theorem dX5_may_6 : decode cX5_may 6 = .ok (.getfield 39, 3) := by decide +kernel
theorem dX5_may_9 : decode cX5_may 9 = .ok (.invokevirtual 129, 3) := by decide +kernel
theorem dX5_may_12 : decode cX5_may 12 = .ok (.aload_n 0, 1) := by decide +kernel
theorem dX5_may_13 : decode cX5_may 13 = .ok (.getfield 39, 3) := by decide +kernel
theorem dX5_may_16 : decode cX5_may 16 = .ok (.aload_n 0, 1) := by decide +kernel
theorem dX5_may_17 : decode cX5_may 17 = .ok (.getfield 30, 3) := by decide +kernel
theorem dX5_may_20 : decode cX5_may 20 = .ok (.invokevirtual 94, 3) := by decide +kernel
theorem dX5_may_23 : decode cX5_may 23 = .ok (.invokevirtual 132, 3) := by decide +kernel
theorem dX5_may_26 : decode cX5_may 26 = .ok (.ifCond .eq 7, 3) := by decide +kernel
theorem dX5_may_29 : decode cX5_may 29 = .ok (.iconst 0, 1) := by decide +kernel
theorem dX5_may_30 : decode cX5_may 30 = .ok (.goto 11, 3) := by decide +kernel
theorem dX5_may_33 : decode cX5_may 33 = .ok (.aload_n 0, 1) := by decide +kernel
theorem dX5_may_34 : decode cX5_may 34 = .ok (.getfield 39, 3) := by decide +kernel
theorem dX5_may_37 : decode cX5_may 37 = .ok (.iload_n 1, 1) := by decide +kernel
theorem dX5_may_38 : decode cX5_may 38 = .ok (.invokevirtual 135, 3) := by decide +kernel
theorem dX5_may_41 : decode cX5_may 41 = .ok (.ireturn, 1) := by decide +kernel
set_option maxRecDepth 20000 in
theorem ggX5_unit_X2_append : GoodIn wsX5_unit wsX2_append := goodIn_r _ [6, 7, 8, 15, 16, 17, 18, 19] (by decide +kernel) (by decide +kernel)
set_option maxRecDepth 20000 in
theorem gX5_unit_X2_append : GoodIn wsX5_unit (wsV RX5 138 RX2 yX2_append wsX2_append) := goodIn_app (goodIn_of _ (by decide +kernel)) ggX5_unit_X2_append
theorem dX5_unit_0 : decode cX5_unit 0 = .ok (.aload_n 0, 1) := by decide +kernel
theorem dX5_unit_1 : decode cX5_unit 1 = .ok (.getfield 46, 3) := by decide +kernel
theorem dX5_unit_4 : decode cX5_unit 4 = .ok (.iload_n 1, 1) := by decide +kernel
theorem dX5_unit_5 : decode cX5_unit 5 = .ok (.invokevirtual 138, 3) := by decide +kernel
theorem dX5_unit_8 : decode cX5_unit 8 = .ok (.ireturn, 1) := by decide +kernel
set_option maxRecDepth 20000 in
theorem ggX5_read_X2_readAll : GoodIn wsX5_read wsX2_readAll := goodIn_r _ [6, 7, 8, 9, 10, 11, 12, 13, 14, 15, 16, 17, 18, 5, 19, 20, 21, 22, 23, 24, 25, 26, 27, 28, 29, 30, 31, 32, 33, 34, 35, 36, 37, 38, 39, 40, 41, 42, 43, 44, 45, 46, 47, 48, 49, 50, 51, 52, 53, 54, 55, 56, 57, 58, 59, 60, 61, 62, 63, 64, 65, 66, 67, 68, 69, 70, 71, 72, 73, 74, 75, 76, 77, 78, 79, 80, 81, 82, 83, 84, 85, 86, 87, 88, 89, 90, 91, 92, 99, 100, 101, 102, 103, 104, 105, 106, 107, 108, 109, 110, 111, 112, 113] (by decide +kernel) (by decide +kernel)
set_option maxRecDepth 20000 in
theorem gX5_read_X2_readAll : GoodIn wsX5_read (wsV RX5 140 RX2 yX2_readAll wsX2_readAll) := goodIn_app (goodIn_of _ (by decide +kernel)) ggX5_read_X2_readAll
theorem dX5_read_0 : decode cX5_read 0 = .ok (.aload_n 0, 1) := by decide +kernel
theorem dX5_read_1 : decode cX5_read 1 = .ok (.getfield 46, 3) := by decide +kernel
theorem dX5_read_4 : decode cX5_read 4 = .ok (.invokevirtual 140, 3) := by decide +kernel
theorem dX5_read_7 : decode cX5_read 7 = .ok (.ireturn, 1) := by decide +kernel
set_option maxRecDepth 20000 in
theorem ggX5_needRule_X3_has : GoodIn wsX5_needRule wsX3_has := goodIn_r _ [9, 10, 23, 24, 25, 26, 27, 28, 29] (by decide +kernel) (by decide +kernel)
set_option maxRecDepth 20000 in
theorem gX5_needRule_X3_has : GoodIn wsX5_needRule (wsV RX5 143 RX3 yX3_has wsX3_has) := goodIn_app (goodIn_of _ (by decide +kernel)) ggX5_needRule_X3_has
theorem dX5_needRule_0 : decode cX5_needRule 0 = .ok (.aload_n 0, 1) := by decide +kernel
theorem dX5_needRule_1 : decode cX5_needRule 1 = .ok (.getfield 23, 3) := by decide +kernel
theorem dX5_needRule_4 : decode cX5_needRule 4 = .ok (.iload_n 1, 1) := by decide +kernel
theorem dX5_needRule_5 : decode cX5_needRule 5 = .ok (.invokevirtual 143, 3) := by decide +kernel
theorem dX5_needRule_8 : decode cX5_needRule 8 = .ok (.ifCond .ne 13, 3) := by decide +kernel
theorem dX5_needRule_11 : decode cX5_needRule 11 = .ok (.new 116, 3) := by decide +kernel
theorem dX5_needRule_14 : decode cX5_needRule 14 = .ok (.dup, 1) := by decide +kernel
theorem dX5_needRule_15 : decode cX5_needRule 15 = .ok (.ldc 146, 2) := by decide +kernel
theorem dX5_needRule_17 : decode cX5_needRule 17 = .ok (.invokespecial 120, 3) := by decide +kernel
theorem dX5_needRule_20 : decode cX5_needRule 20 = .ok (.athrow, 1) := by decide +kernel
theorem dX5_needRule_21 : decode cX5_needRule 21 = .ok (.return_, 1) := by decide +kernel
set_option maxRecDepth 20000 in
theorem ggX5_needCell_X0_hasCell : GoodIn wsX5_needCell wsX0_hasCell := goodIn_r _ [9, 10, 23, 24, 25, 26, 27] (by decide +kernel) (by decide +kernel)
set_option maxRecDepth 20000 in
theorem gX5_needCell_X0_hasCell : GoodIn wsX5_needCell (wsV RX5 148 RX0 yX0_hasCell wsX0_hasCell) := goodIn_app (goodIn_of _ (by decide +kernel)) ggX5_needCell_X0_hasCell
theorem dX5_needCell_0 : decode cX5_needCell 0 = .ok (.aload_n 0, 1) := by decide +kernel
theorem dX5_needCell_1 : decode cX5_needCell 1 = .ok (.getfield 12, 3) := by decide +kernel
theorem dX5_needCell_4 : decode cX5_needCell 4 = .ok (.iload_n 1, 1) := by decide +kernel
theorem dX5_needCell_5 : decode cX5_needCell 5 = .ok (.invokevirtual 148, 3) := by decide +kernel
theorem dX5_needCell_8 : decode cX5_needCell 8 = .ok (.ifCond .ne 13, 3) := by decide +kernel
theorem dX5_needCell_11 : decode cX5_needCell 11 = .ok (.new 116, 3) := by decide +kernel
theorem dX5_needCell_14 : decode cX5_needCell 14 = .ok (.dup, 1) := by decide +kernel
theorem dX5_needCell_15 : decode cX5_needCell 15 = .ok (.ldc 151, 2) := by decide +kernel
theorem dX5_needCell_17 : decode cX5_needCell 17 = .ok (.invokespecial 120, 3) := by decide +kernel
theorem dX5_needCell_20 : decode cX5_needCell 20 = .ok (.athrow, 1) := by decide +kernel
theorem dX5_needCell_21 : decode cX5_needCell 21 = .ok (.return_, 1) := by decide +kernel
set_option maxRecDepth 20000 in
theorem ggX5_needSymbol_X0_hasSymbol : GoodIn wsX5_needSymbol wsX0_hasSymbol := goodIn_r _ [8, 9, 16, 17, 18, 19, 20] (by decide +kernel) (by decide +kernel)
set_option maxRecDepth 20000 in
theorem gX5_needSymbol_X0_hasSymbol : GoodIn wsX5_needSymbol (wsV RX5 153 RX0 yX0_hasSymbol wsX0_hasSymbol) := goodIn_app (goodIn_of _ (by decide +kernel)) ggX5_needSymbol_X0_hasSymbol
theorem dX5_needSymbol_0 : decode cX5_needSymbol 0 = .ok (.aload_n 0, 1) := by decide +kernel
theorem dX5_needSymbol_1 : decode cX5_needSymbol 1 = .ok (.getfield 12, 3) := by decide +kernel
theorem dX5_needSymbol_4 : decode cX5_needSymbol 4 = .ok (.iload_n 1, 1) := by decide +kernel
theorem dX5_needSymbol_5 : decode cX5_needSymbol 5 = .ok (.invokevirtual 153, 3) := by decide +kernel
theorem dX5_needSymbol_8 : decode cX5_needSymbol 8 = .ok (.ifCond .ne 13, 3) := by decide +kernel
theorem dX5_needSymbol_11 : decode cX5_needSymbol 11 = .ok (.new 156, 3) := by decide +kernel
theorem dX5_needSymbol_14 : decode cX5_needSymbol 14 = .ok (.dup, 1) := by decide +kernel
theorem dX5_needSymbol_15 : decode cX5_needSymbol 15 = .ok (.ldc 158, 2) := by decide +kernel
theorem dX5_needSymbol_17 : decode cX5_needSymbol 17 = .ok (.invokespecial 160, 3) := by decide +kernel
theorem dX5_needSymbol_20 : decode cX5_needSymbol 20 = .ok (.athrow, 1) := by decide +kernel
theorem dX5_needSymbol_21 : decode cX5_needSymbol 21 = .ok (.return_, 1) := by decide +kernel
set_option maxRecDepth 20000 in
theorem ggX5_toldLiteral_X1_sizeOf : GoodIn wsX5_toldLiteral wsX1_sizeOf := goodIn_r _ [7, 8, 35, 36, 37, 38, 39] (by decide +kernel) (by decide +kernel)
set_option maxRecDepth 20000 in
theorem gX5_toldLiteral_X1_sizeOf : GoodIn wsX5_toldLiteral (wsV RX5 109 RX1 yX1_sizeOf wsX1_sizeOf) := goodIn_app (goodIn_of _ (by decide +kernel)) ggX5_toldLiteral_X1_sizeOf
set_option maxRecDepth 20000 in
theorem ggX5_toldLiteral_X1_literalAt : GoodIn wsX5_toldLiteral wsX1_literalAt := goodIn_r _ [12, 13, 35, 36, 37, 38, 39] (by decide +kernel) (by decide +kernel)
set_option maxRecDepth 20000 in
theorem gX5_toldLiteral_X1_literalAt : GoodIn wsX5_toldLiteral (wsV RX5 161 RX1 yX1_literalAt wsX1_literalAt) := goodIn_app (goodIn_of _ (by decide +kernel)) ggX5_toldLiteral_X1_literalAt
set_option maxRecDepth 20000 in
theorem ggX5_toldLiteral_X0_symbols : GoodIn wsX5_toldLiteral wsX0_symbols := goodIn_r _ [18, 19, 40, 41, 42, 43, 44] (by decide +kernel) (by decide +kernel)
set_option maxRecDepth 20000 in
theorem gX5_toldLiteral_X0_symbols : GoodIn wsX5_toldLiteral (wsV RX5 164 RX0 yX0_symbols wsX0_symbols) := goodIn_app (goodIn_of _ (by decide +kernel)) ggX5_toldLiteral_X0_symbols
set_option maxRecDepth 20000 in
theorem ggX5_toldLiteral_X1_cellOf : GoodIn wsX5_toldLiteral wsX1_cellOf := goodIn_r _ [22] (by decide +kernel) (by decide +kernel)
set_option maxRecDepth 20000 in
theorem gX5_toldLiteral_X1_cellOf : GoodIn wsX5_toldLiteral (va_wsS RX5 167 yX1_cellOf wsX1_cellOf) := goodIn_app (goodIn_of _ (by decide +kernel)) ggX5_toldLiteral_X1_cellOf
set_option maxRecDepth 20000 in
theorem ggX5_toldLiteral_X1_symbolOf : GoodIn wsX5_toldLiteral wsX1_symbolOf := goodIn_r _ [25] (by decide +kernel) (by decide +kernel)
set_option maxRecDepth 20000 in
theorem gX5_toldLiteral_X1_symbolOf : GoodIn wsX5_toldLiteral (va_wsS RX5 170 yX1_symbolOf wsX1_symbolOf) := goodIn_app (goodIn_of _ (by decide +kernel)) ggX5_toldLiteral_X1_symbolOf
set_option maxRecDepth 20000 in
theorem ggX5_toldLiteral_X1_saysIs : GoodIn wsX5_toldLiteral wsX1_saysIs := goodIn_r _ [28] (by decide +kernel) (by decide +kernel)
set_option maxRecDepth 20000 in
theorem gX5_toldLiteral_X1_saysIs : GoodIn wsX5_toldLiteral (va_wsS RX5 173 yX1_saysIs wsX1_saysIs) := goodIn_app (goodIn_of _ (by decide +kernel)) ggX5_toldLiteral_X1_saysIs
theorem dX5_toldLiteral_0 : decode cX5_toldLiteral 0 = .ok (.iload_n 2, 1) := by decide +kernel
theorem dX5_toldLiteral_1 : decode cX5_toldLiteral 1 = .ok (.iconst 3, 1) := by decide +kernel
theorem dX5_toldLiteral_2 : decode cX5_toldLiteral 2 = .ok (.if_icmp .lt 17, 3) := by decide +kernel
theorem dX5_toldLiteral_5 : decode cX5_toldLiteral 5 = .ok (.iload_n 2, 1) := by decide +kernel
theorem dX5_toldLiteral_6 : decode cX5_toldLiteral 6 = .ok (.iconst 3, 1) := by decide +kernel
theorem dX5_toldLiteral_7 : decode cX5_toldLiteral 7 = .ok (.isub, 1) := by decide +kernel
theorem dX5_toldLiteral_8 : decode cX5_toldLiteral 8 = .ok (.aload_n 0, 1) := by decide +kernel
theorem dX5_toldLiteral_9 : decode cX5_toldLiteral 9 = .ok (.getfield 30, 3) := by decide +kernel
theorem dX5_toldLiteral_12 : decode cX5_toldLiteral 12 = .ok (.iload_n 1, 1) := by decide +kernel
theorem dX5_toldLiteral_13 : decode cX5_toldLiteral 13 = .ok (.invokevirtual 109, 3) := by decide +kernel
theorem dX5_toldLiteral_16 : decode cX5_toldLiteral 16 = .ok (.if_icmp .lt 5, 3) := by decide +kernel
theorem dX5_toldLiteral_19 : decode cX5_toldLiteral 19 = .ok (.iconst (-1), 1) := by decide +kernel
theorem dX5_toldLiteral_20 : decode cX5_toldLiteral 20 = .ok (.ireturn, 1) := by decide +kernel
theorem dX5_toldLiteral_21 : decode cX5_toldLiteral 21 = .ok (.aload_n 0, 1) := by decide +kernel
theorem dX5_toldLiteral_22 : decode cX5_toldLiteral 22 = .ok (.getfield 30, 3) := by decide +kernel
theorem dX5_toldLiteral_25 : decode cX5_toldLiteral 25 = .ok (.iload_n 1, 1) := by decide +kernel
theorem dX5_toldLiteral_26 : decode cX5_toldLiteral 26 = .ok (.iload_n 2, 1) := by decide +kernel
theorem dX5_toldLiteral_27 : decode cX5_toldLiteral 27 = .ok (.iconst 3, 1) := by decide +kernel
theorem dX5_toldLiteral_28 : decode cX5_toldLiteral 28 = .ok (.isub, 1) := by decide +kernel
theorem dX5_toldLiteral_29 : decode cX5_toldLiteral 29 = .ok (.invokevirtual 161, 3) := by decide +kernel
theorem dX5_toldLiteral_32 : decode cX5_toldLiteral 32 = .ok (.istore_n 3, 1) := by decide +kernel
theorem dX5_toldLiteral_33 : decode cX5_toldLiteral 33 = .ok (.aload_n 0, 1) := by decide +kernel
theorem dX5_toldLiteral_34 : decode cX5_toldLiteral 34 = .ok (.getfield 12, 3) := by decide +kernel
theorem dX5_toldLiteral_37 : decode cX5_toldLiteral 37 = .ok (.invokevirtual 164, 3) := by decide +kernel
theorem dX5_toldLiteral_40 : decode cX5_toldLiteral 40 = .ok (.iload_n 3, 1) := by decide +kernel
theorem dX5_toldLiteral_41 : decode cX5_toldLiteral 41 = .ok (.invokestatic 167, 3) := by decide +kernel
theorem dX5_toldLiteral_44 : decode cX5_toldLiteral 44 = .ok (.imul, 1) := by decide +kernel
theorem dX5_toldLiteral_45 : decode cX5_toldLiteral 45 = .ok (.iload_n 3, 1) := by decide +kernel
theorem dX5_toldLiteral_46 : decode cX5_toldLiteral 46 = .ok (.invokestatic 170, 3) := by decide +kernel
theorem dX5_toldLiteral_49 : decode cX5_toldLiteral 49 = .ok (.iadd, 1) := by decide +kernel
theorem dX5_toldLiteral_50 : decode cX5_toldLiteral 50 = .ok (.istore 4, 2) := by decide +kernel
theorem dX5_toldLiteral_52 : decode cX5_toldLiteral 52 = .ok (.iconst 2, 1) := by decide +kernel
theorem dX5_toldLiteral_53 : decode cX5_toldLiteral 53 = .ok (.iload 4, 2) := by decide +kernel
theorem dX5_toldLiteral_55 : decode cX5_toldLiteral 55 = .ok (.imul, 1) := by decide +kernel
theorem dX5_toldLiteral_56 : decode cX5_toldLiteral 56 = .ok (.iload_n 3, 1) := by decide +kernel
theorem dX5_toldLiteral_57 : decode cX5_toldLiteral 57 = .ok (.invokestatic 173, 3) := by decide +kernel
theorem dX5_toldLiteral_60 : decode cX5_toldLiteral 60 = .ok (.ifCond .eq 7, 3) := by decide +kernel
theorem dX5_toldLiteral_63 : decode cX5_toldLiteral 63 = .ok (.iconst 1, 1) := by decide +kernel
theorem dX5_toldLiteral_64 : decode cX5_toldLiteral 64 = .ok (.goto 4, 3) := by decide +kernel
theorem dX5_toldLiteral_67 : decode cX5_toldLiteral 67 = .ok (.iconst 0, 1) := by decide +kernel
theorem dX5_toldLiteral_68 : decode cX5_toldLiteral 68 = .ok (.iadd, 1) := by decide +kernel
theorem dX5_toldLiteral_69 : decode cX5_toldLiteral 69 = .ok (.ireturn, 1) := by decide +kernel
set_option maxRecDepth 20000 in
theorem ggX5_followsFromLinesAhead_X1_numberOf : GoodIn wsX5_followsFromLinesAhead wsX1_numberOf := goodIn_r _ [9, 10, 204, 205, 206, 207, 208] (by decide +kernel) (by decide +kernel)
set_option maxRecDepth 20000 in
theorem gX5_followsFromLinesAhead_X1_numberOf : GoodIn wsX5_followsFromLinesAhead (wsV RX5 123 RX1 yX1_numberOf wsX1_numberOf) := goodIn_app (goodIn_of _ (by decide +kernel)) ggX5_followsFromLinesAhead_X1_numberOf
set_option maxRecDepth 20000 in
theorem ggX5_followsFromLinesAhead_X1_kindOf : GoodIn wsX5_followsFromLinesAhead wsX1_kindOf := goodIn_r _ [14, 15, 204, 205, 206, 207, 208] (by decide +kernel) (by decide +kernel)
set_option maxRecDepth 20000 in
theorem gX5_followsFromLinesAhead_X1_kindOf : GoodIn wsX5_followsFromLinesAhead (wsV RX5 113 RX1 yX1_kindOf wsX1_kindOf) := goodIn_app (goodIn_of _ (by decide +kernel)) ggX5_followsFromLinesAhead_X1_kindOf
set_option maxRecDepth 20000 in
theorem ggX5_followsFromLinesAhead_X3_has : GoodIn wsX5_followsFromLinesAhead wsX3_has := goodIn_r _ [20, 21, 209, 210, 211, 212, 213, 214, 215] (by decide +kernel) (by decide +kernel)
set_option maxRecDepth 20000 in
theorem gX5_followsFromLinesAhead_X3_has : GoodIn wsX5_followsFromLinesAhead (wsV RX5 143 RX3 yX3_has wsX3_has) := goodIn_app (goodIn_of _ (by decide +kernel)) ggX5_followsFromLinesAhead_X3_has
set_option maxRecDepth 20000 in
theorem ggX5_followsFromLinesAhead_X5_isByRule : GoodIn wsX5_followsFromLinesAhead wsX5_isByRule := goodIn_r _ [26, 2, 3, 27, 28, 29, 19, 30, 31, 32, 33, 34, 35, 36, 37, 38, 39, 40, 41, 42, 43, 44, 45, 46, 47, 48, 49, 50, 51, 52, 53, 54, 55, 56, 57, 58, 59, 60, 61, 62, 8, 63, 64, 65, 66, 67, 68, 69, 70, 71, 72, 73, 74, 75, 76, 77, 78, 79, 80, 81, 82, 83, 84, 85, 86, 87, 88, 89, 90, 91, 92, 93, 94, 95, 96, 97, 98, 99, 100, 101, 102, 103, 104, 105, 106, 107, 108, 109, 110, 111, 112, 113, 114, 115, 116, 117, 118, 119, 120, 121, 122, 123, 124, 125, 126, 127, 128, 129, 130, 131, 132, 133, 198, 199, 200, 201, 202, 203, 209, 210, 211, 212, 213, 214, 215, 216, 217, 218, 219, 220, 221, 222, 223, 224, 204, 205, 206, 207, 208] (by decide +kernel) (by decide +kernel)
set_option maxRecDepth 20000 in
theorem gX5_followsFromLinesAhead_X5_isByRule : GoodIn wsX5_followsFromLinesAhead (wsV RX5 176 RX5 yX5_isByRule wsX5_isByRule) := goodIn_app (goodIn_of _ (by decide +kernel)) ggX5_followsFromLinesAhead_X5_isByRule
set_option maxRecDepth 20000 in
theorem ggX5_followsFromLinesAhead_X4_refute : GoodIn wsX5_followsFromLinesAhead wsX4_refute := goodIn_r _ [137, 138, 40, 41, 42, 43, 44, 45, 46, 47, 48, 49, 50, 51, 52, 53, 36, 54, 55, 56, 57, 58, 59, 38, 60, 61, 62, 8, 63, 64, 65, 66, 67, 68, 69, 70, 71, 72, 73, 74, 75, 76, 77, 78, 79, 80, 81, 82, 139, 140, 141, 142, 143, 144, 145, 146, 147, 34, 35, 37, 148, 149, 150, 151, 152, 153, 154, 155, 221, 222, 223, 224, 216, 217, 218, 219, 220, 204, 205, 206, 207, 208] (by decide +kernel) (by decide +kernel)
set_option maxRecDepth 20000 in
theorem gX5_followsFromLinesAhead_X4_refute : GoodIn wsX5_followsFromLinesAhead (wsV RX5 179 RX4 yX4_refute wsX4_refute) := goodIn_app (goodIn_of _ (by decide +kernel)) ggX5_followsFromLinesAhead_X4_refute
set_option maxRecDepth 20000 in
theorem ggX5_followsFromLinesAhead_X0_hasCell : GoodIn wsX5_followsFromLinesAhead wsX0_hasCell := goodIn_r _ [159, 55, 216, 217, 218, 219, 220] (by decide +kernel) (by decide +kernel)
set_option maxRecDepth 20000 in
theorem gX5_followsFromLinesAhead_X0_hasCell : GoodIn wsX5_followsFromLinesAhead (wsV RX5 148 RX0 yX0_hasCell wsX0_hasCell) := goodIn_app (goodIn_of _ (by decide +kernel)) ggX5_followsFromLinesAhead_X0_hasCell
set_option maxRecDepth 20000 in
theorem ggX5_followsFromLinesAhead_X4_refuteBySplit : GoodIn wsX5_followsFromLinesAhead wsX4_refuteBySplit := goodIn_r _ [163, 50, 164, 165, 166, 167, 168, 49, 169, 135, 136, 42, 137, 138, 40, 41, 43, 44, 45, 46, 47, 48, 51, 52, 53, 36, 54, 55, 56, 57, 58, 59, 38, 60, 61, 62, 8, 63, 64, 65, 66, 67, 68, 69, 70, 71, 72, 73, 74, 75, 76, 77, 78, 79, 80, 81, 82, 139, 140, 141, 142, 143, 144, 145, 146, 147, 34, 35, 37, 148, 149, 150, 151, 152, 153, 154, 155, 221, 222, 223, 224, 216, 217, 218, 219, 220, 204, 205, 206, 207, 208] (by decide +kernel) (by decide +kernel)
set_option maxRecDepth 20000 in
theorem gX5_followsFromLinesAhead_X4_refuteBySplit : GoodIn wsX5_followsFromLinesAhead (wsV RX5 182 RX4 yX4_refuteBySplit wsX4_refuteBySplit) := goodIn_app (goodIn_of _ (by decide +kernel)) ggX5_followsFromLinesAhead_X4_refuteBySplit
set_option maxRecDepth 20000 in
theorem ggX5_followsFromLinesAhead_X5_isBarred : GoodIn wsX5_followsFromLinesAhead wsX5_isBarred := goodIn_r _ [173, 1, 4, 174, 61, 62, 8, 63, 64, 175, 52, 53, 36, 54, 55, 176, 177, 178, 25, 179, 180, 181, 66, 67, 68, 69, 182, 71, 72, 183, 78, 79, 184, 81, 82, 185, 186, 187, 188, 2, 189, 190, 191, 19, 192, 21, 193, 194, 195, 196, 31, 97, 98, 99, 100, 101, 197, 88, 89, 90, 91, 92, 32, 93, 94, 95, 96, 102, 103, 104, 105, 106, 107, 108, 109, 110, 111, 112, 113, 114, 115, 116, 117, 118, 119, 120, 121, 122, 123, 124, 125, 126, 127, 128, 198, 199, 200, 201, 202, 203, 204, 205, 206, 207, 208, 216, 217, 218, 219, 220, 209, 210, 211, 212, 213, 214, 215] (by decide +kernel) (by decide +kernel)
set_option maxRecDepth 20000 in
theorem gX5_followsFromLinesAhead_X5_isBarred : GoodIn wsX5_followsFromLinesAhead (wsV RX5 185 RX5 yX5_isBarred wsX5_isBarred) := goodIn_app (goodIn_of _ (by decide +kernel)) ggX5_followsFromLinesAhead_X5_isBarred
theorem dX5_followsFromLinesAhead_0 : decode cX5_followsFromLinesAhead 0 = .ok (.aload_n 0, 1) := by decide +kernel
theorem dX5_followsFromLinesAhead_1 : decode cX5_followsFromLinesAhead 1 = .ok (.getfield 30, 3) := by decide +kernel
theorem dX5_followsFromLinesAhead_4 : decode cX5_followsFromLinesAhead 4 = .ok (.iload_n 1, 1) := by decide +kernel
theorem dX5_followsFromLinesAhead_5 : decode cX5_followsFromLinesAhead 5 = .ok (.invokevirtual 123, 3) := by decide +kernel
theorem dX5_followsFromLinesAhead_8 : decode cX5_followsFromLinesAhead 8 = .ok (.istore_n 2, 1) := by decide +kernel
theorem dX5_followsFromLinesAhead_9 : decode cX5_followsFromLinesAhead 9 = .ok (.aload_n 0, 1) := by decide +kernel
theorem dX5_followsFromLinesAhead_10 : decode cX5_followsFromLinesAhead 10 = .ok (.getfield 30, 3) := by decide +kernel
theorem dX5_followsFromLinesAhead_13 : decode cX5_followsFromLinesAhead 13 = .ok (.iload_n 1, 1) := by decide +kernel
theorem dX5_followsFromLinesAhead_14 : decode cX5_followsFromLinesAhead 14 = .ok (.invokevirtual 113, 3) := by decide +kernel
theorem dX5_followsFromLinesAhead_17 : decode cX5_followsFromLinesAhead 17 = .ok (.tableswitch 91 0 2 #[27, 53, 62], 27) := by decide +kernel
theorem dX5_followsFromLinesAhead_44 : decode cX5_followsFromLinesAhead 44 = .ok (.aload_n 0, 1) := by decide +kernel
theorem dX5_followsFromLinesAhead_45 : decode cX5_followsFromLinesAhead 45 = .ok (.getfield 23, 3) := by decide +kernel
theorem dX5_followsFromLinesAhead_48 : decode cX5_followsFromLinesAhead 48 = .ok (.iload_n 2, 1) := by decide +kernel
theorem dX5_followsFromLinesAhead_49 : decode cX5_followsFromLinesAhead 49 = .ok (.invokevirtual 143, 3) := by decide +kernel
theorem dX5_followsFromLinesAhead_52 : decode cX5_followsFromLinesAhead 52 = .ok (.ifCond .eq 16, 3) := by decide +kernel
theorem dX5_followsFromLinesAhead_55 : decode cX5_followsFromLinesAhead 55 = .ok (.aload_n 0, 1) := by decide +kernel
theorem dX5_followsFromLinesAhead_56 : decode cX5_followsFromLinesAhead 56 = .ok (.iload_n 1, 1) := by decide +kernel
theorem dX5_followsFromLinesAhead_57 : decode cX5_followsFromLinesAhead 57 = .ok (.iload_n 2, 1) := by decide +kernel
theorem dX5_followsFromLinesAhead_58 : decode cX5_followsFromLinesAhead 58 = .ok (.invokevirtual 176, 3) := by decide +kernel
theorem dX5_followsFromLinesAhead_61 : decode cX5_followsFromLinesAhead 61 = .ok (.ifCond .eq 7, 3) := by decide +kernel
theorem dX5_followsFromLinesAhead_64 : decode cX5_followsFromLinesAhead 64 = .ok (.iconst 1, 1) := by decide +kernel
theorem dX5_followsFromLinesAhead_65 : decode cX5_followsFromLinesAhead 65 = .ok (.goto 4, 3) := by decide +kernel
theorem dX5_followsFromLinesAhead_68 : decode cX5_followsFromLinesAhead 68 = .ok (.iconst 0, 1) := by decide +kernel
theorem dX5_followsFromLinesAhead_69 : decode cX5_followsFromLinesAhead 69 = .ok (.ireturn, 1) := by decide +kernel
theorem dX5_followsFromLinesAhead_70 : decode cX5_followsFromLinesAhead 70 = .ok (.aload_n 0, 1) := by decide +kernel
theorem dX5_followsFromLinesAhead_71 : decode cX5_followsFromLinesAhead 71 = .ok (.getfield 39, 3) := by decide +kernel
theorem dX5_followsFromLinesAhead_74 : decode cX5_followsFromLinesAhead 74 = .ok (.iload_n 1, 1) := by decide +kernel
theorem dX5_followsFromLinesAhead_75 : decode cX5_followsFromLinesAhead 75 = .ok (.invokevirtual 179, 3) := by decide +kernel
theorem dX5_followsFromLinesAhead_78 : decode cX5_followsFromLinesAhead 78 = .ok (.ireturn, 1) := by decide +kernel
theorem dX5_followsFromLinesAhead_79 : decode cX5_followsFromLinesAhead 79 = .ok (.aload_n 0, 1) := by decide +kernel
theorem dX5_followsFromLinesAhead_80 : decode cX5_followsFromLinesAhead 80 = .ok (.getfield 12, 3) := by decide +kernel
theorem dX5_followsFromLinesAhead_83 : decode cX5_followsFromLinesAhead 83 = .ok (.iload_n 2, 1) := by decide +kernel
theorem dX5_followsFromLinesAhead_84 : decode cX5_followsFromLinesAhead 84 = .ok (.invokevirtual 148, 3) := by decide +kernel
theorem dX5_followsFromLinesAhead_87 : decode cX5_followsFromLinesAhead 87 = .ok (.ifCond .eq 19, 3) := by decide +kernel
theorem dX5_followsFromLinesAhead_90 : decode cX5_followsFromLinesAhead 90 = .ok (.aload_n 0, 1) := by decide +kernel
theorem dX5_followsFromLinesAhead_91 : decode cX5_followsFromLinesAhead 91 = .ok (.getfield 39, 3) := by decide +kernel
theorem dX5_followsFromLinesAhead_94 : decode cX5_followsFromLinesAhead 94 = .ok (.iload_n 1, 1) := by decide +kernel
theorem dX5_followsFromLinesAhead_95 : decode cX5_followsFromLinesAhead 95 = .ok (.iload_n 2, 1) := by decide +kernel
theorem dX5_followsFromLinesAhead_96 : decode cX5_followsFromLinesAhead 96 = .ok (.invokevirtual 182, 3) := by decide +kernel
theorem dX5_followsFromLinesAhead_99 : decode cX5_followsFromLinesAhead 99 = .ok (.ifCond .eq 7, 3) := by decide +kernel
theorem dX5_followsFromLinesAhead_102 : decode cX5_followsFromLinesAhead 102 = .ok (.iconst 1, 1) := by decide +kernel
theorem dX5_followsFromLinesAhead_103 : decode cX5_followsFromLinesAhead 103 = .ok (.goto 4, 3) := by decide +kernel
theorem dX5_followsFromLinesAhead_106 : decode cX5_followsFromLinesAhead 106 = .ok (.iconst 0, 1) := by decide +kernel
theorem dX5_followsFromLinesAhead_107 : decode cX5_followsFromLinesAhead 107 = .ok (.ireturn, 1) := by decide +kernel
theorem dX5_followsFromLinesAhead_108 : decode cX5_followsFromLinesAhead 108 = .ok (.aload_n 0, 1) := by decide +kernel
theorem dX5_followsFromLinesAhead_109 : decode cX5_followsFromLinesAhead 109 = .ok (.iload_n 1, 1) := by decide +kernel
theorem dX5_followsFromLinesAhead_110 : decode cX5_followsFromLinesAhead 110 = .ok (.invokevirtual 185, 3) := by decide +kernel
theorem dX5_followsFromLinesAhead_113 : decode cX5_followsFromLinesAhead 113 = .ok (.ireturn, 1) := by decide +kernel
set_option maxRecDepth 20000 in
theorem ggX5_isByRule_X3_canBeTried : GoodIn wsX5_isByRule wsX3_canBeTried := goodIn_r _ [7, 8, 9, 10, 11, 12, 13, 14, 15, 118, 119, 120, 121, 122, 123, 124, 125, 126, 127, 128, 129] (by decide +kernel) (by decide +kernel)
set_option maxRecDepth 20000 in
theorem gX5_isByRule_X3_canBeTried : GoodIn wsX5_isByRule (wsV RX5 188 RX3 yX3_canBeTried wsX3_canBeTried) := goodIn_app (goodIn_of _ (by decide +kernel)) ggX5_isByRule_X3_canBeTried
set_option maxRecDepth 20000 in
theorem ggX5_isByRule_X4_turnRound : GoodIn wsX5_isByRule wsX4_turnRound := goodIn_r _ [20, 21, 22, 23, 24, 19, 25, 26, 27, 28, 29, 30, 13, 31, 32, 33, 34, 35, 36, 15, 37, 38, 39, 40, 41, 42, 43, 44, 45, 46, 47, 48, 49, 50, 51, 52, 53, 54, 55, 56, 57, 58, 59, 60, 130, 131, 132, 133, 125, 126, 127, 128, 129, 134, 135, 136, 137, 138] (by decide +kernel) (by decide +kernel)
set_option maxRecDepth 20000 in
theorem gX5_isByRule_X4_turnRound : GoodIn wsX5_isByRule (wsV RX5 191 RX4 yX4_turnRound wsX4_turnRound) := goodIn_app (goodIn_of _ (by decide +kernel)) ggX5_isByRule_X4_turnRound
set_option maxRecDepth 20000 in
theorem ggX5_isByRule_X3_canBeMet : GoodIn wsX5_isByRule wsX3_canBeMet := goodIn_r _ [63, 8, 64, 9, 65, 66, 67, 6, 68, 69, 70, 71, 72, 73, 74, 75, 76, 77, 78, 79, 80, 81, 82, 83, 84, 85, 86, 87, 88, 89, 90, 91, 92, 93, 94, 95, 96, 97, 98, 13, 99, 32, 100, 101, 102, 103, 104, 105, 106, 107, 108, 109, 19, 110, 27, 10, 11, 12, 14, 15, 111, 61, 62, 118, 119, 120, 121, 122, 123, 124, 125, 126, 127, 128, 129, 130, 131, 132, 133] (by decide +kernel) (by decide +kernel)
set_option maxRecDepth 20000 in
theorem gX5_isByRule_X3_canBeMet_n194 : GoodIn wsX5_isByRule (wsX3_canBeMet) := ggX5_isByRule_X3_canBeMet
theorem dX5_isByRule_0 : decode cX5_isByRule 0 = .ok (.aload_n 0, 1) := by decide +kernel
theorem dX5_isByRule_1 : decode cX5_isByRule 1 = .ok (.getfield 23, 3) := by decide +kernel
theorem dX5_isByRule_4 : decode cX5_isByRule 4 = .ok (.iload_n 2, 1) := by decide +kernel
theorem dX5_isByRule_5 : decode cX5_isByRule 5 = .ok (.invokevirtual 188, 3) := by decide +kernel
theorem dX5_isByRule_8 : decode cX5_isByRule 8 = .ok (.ifCond .ne 5, 3) := by decide +kernel
theorem dX5_isByRule_11 : decode cX5_isByRule 11 = .ok (.iconst 0, 1) := by decide +kernel
theorem dX5_isByRule_12 : decode cX5_isByRule 12 = .ok (.ireturn, 1) := by decide +kernel
theorem dX5_isByRule_13 : decode cX5_isByRule 13 = .ok (.aload_n 0, 1) := by decide +kernel
theorem dX5_isByRule_14 : decode cX5_isByRule 14 = .ok (.getfield 39, 3) := by decide +kernel
theorem dX5_isByRule_17 : decode cX5_isByRule 17 = .ok (.iload_n 1, 1) := by decide +kernel
theorem dX5_isByRule_18 : decode cX5_isByRule 18 = .ok (.invokevirtual 191, 3) := by decide +kernel
theorem dX5_isByRule_21 : decode cX5_isByRule 21 = .ok (.aload_n 0, 1) := by decide +kernel
theorem dX5_isByRule_22 : decode cX5_isByRule 22 = .ok (.getfield 23, 3) := by decide +kernel
theorem dX5_isByRule_25 : decode cX5_isByRule 25 = .ok (.iload_n 2, 1) := by decide +kernel
theorem dX5_isByRule_26 : decode cX5_isByRule 26 = .ok (.aload_n 0, 1) := by decide +kernel
theorem dX5_isByRule_27 : decode cX5_isByRule 27 = .ok (.getfield 39, 3) := by decide +kernel
theorem dX5_isByRule_30 : decode cX5_isByRule 30 = .ok (.iconst 0, 1) := by decide +kernel
theorem dX5_isByRule_31 : decode cX5_isByRule 31 = .ok (.invokevirtual 194, 3) := by decide +kernel
theorem dX5_isByRule_34 : decode cX5_isByRule 34 = .ok (.ifCond .ne 7, 3) := by decide +kernel
theorem dX5_isByRule_37 : decode cX5_isByRule 37 = .ok (.iconst 1, 1) := by decide +kernel
theorem dX5_isByRule_38 : decode cX5_isByRule 38 = .ok (.goto 4, 3) := by decide +kernel
theorem dX5_isByRule_41 : decode cX5_isByRule 41 = .ok (.iconst 0, 1) := by decide +kernel
theorem dX5_isByRule_42 : decode cX5_isByRule 42 = .ok (.ireturn, 1) := by decide +kernel
set_option maxRecDepth 20000 in
theorem ggX5_isBarred_X1_sizeOf : GoodIn wsX5_isBarred wsX1_sizeOf := goodIn_r _ [7, 8, 100, 101, 102, 103, 104] (by decide +kernel) (by decide +kernel)
set_option maxRecDepth 20000 in
theorem gX5_isBarred_X1_sizeOf : GoodIn wsX5_isBarred (wsV RX5 109 RX1 yX1_sizeOf wsX1_sizeOf) := goodIn_app (goodIn_of _ (by decide +kernel)) ggX5_isBarred_X1_sizeOf
set_option maxRecDepth 20000 in
theorem ggX5_isBarred_X0_cells : GoodIn wsX5_isBarred wsX0_cells := goodIn_r _ [13, 14, 105, 106, 107, 108, 109] (by decide +kernel) (by decide +kernel)
set_option maxRecDepth 20000 in
theorem gX5_isBarred_X0_cells : GoodIn wsX5_isBarred (wsV RX5 198 RX0 yX0_cells wsX0_cells) := goodIn_app (goodIn_of _ (by decide +kernel)) ggX5_isBarred_X0_cells
set_option maxRecDepth 20000 in
theorem ggX5_isBarred_X5_deniesOnlyWhatIsSaid : GoodIn wsX5_isBarred wsX5_deniesOnlyWhatIsSaid := goodIn_r _ [19, 1, 20, 3, 4, 5, 6, 7, 8, 21, 22, 23, 24, 25, 26, 27, 28, 29, 30, 31, 32, 33, 34, 94, 95, 96, 97, 98, 99, 100, 101, 102, 103, 104] (by decide +kernel) (by decide +kernel)
set_option maxRecDepth 20000 in
theorem gX5_isBarred_X5_deniesOnlyWhatIsSaid : GoodIn wsX5_isBarred (wsV RX5 201 RX5 yX5_deniesOnlyWhatIsSaid wsX5_deniesOnlyWhatIsSaid) := goodIn_app (goodIn_of _ (by decide +kernel)) ggX5_isBarred_X5_deniesOnlyWhatIsSaid
set_option maxRecDepth 20000 in
theorem ggX5_isBarred_X5_fails : GoodIn wsX5_isBarred wsX5_fails := goodIn_r _ [38, 39, 20, 40, 41, 42, 43, 44, 45, 46, 47, 48, 49, 50, 51, 52, 53, 54, 55, 56, 57, 58, 59, 60, 61, 62, 63, 64, 65, 66, 67, 68, 69, 70, 71, 72, 73, 74, 75, 76, 77, 78, 79, 80, 81, 82, 83, 84, 85, 12, 86, 14, 87, 88, 89, 90, 91, 92, 93, 94, 95, 96, 97, 98, 99, 110, 111, 112, 113, 114, 115, 116, 105, 106, 107, 108, 109] (by decide +kernel) (by decide +kernel)
set_option maxRecDepth 20000 in
theorem gX5_isBarred_X5_fails : GoodIn wsX5_isBarred (wsV RX5 204 RX5 yX5_fails wsX5_fails) := goodIn_app (goodIn_of _ (by decide +kernel)) ggX5_isBarred_X5_fails
theorem dX5_isBarred_0 : decode cX5_isBarred 0 = .ok (.aload_n 0, 1) := by decide +kernel
theorem dX5_isBarred_1 : decode cX5_isBarred 1 = .ok (.getfield 30, 3) := by decide +kernel
theorem dX5_isBarred_4 : decode cX5_isBarred 4 = .ok (.iload_n 1, 1) := by decide +kernel
theorem dX5_isBarred_5 : decode cX5_isBarred 5 = .ok (.invokevirtual 109, 3) := by decide +kernel
theorem dX5_isBarred_8 : decode cX5_isBarred 8 = .ok (.aload_n 0, 1) := by decide +kernel
theorem dX5_isBarred_9 : decode cX5_isBarred 9 = .ok (.getfield 12, 3) := by decide +kernel
theorem dX5_isBarred_12 : decode cX5_isBarred 12 = .ok (.invokevirtual 198, 3) := by decide +kernel
theorem dX5_isBarred_15 : decode cX5_isBarred 15 = .ok (.if_icmp .ne 23, 3) := by decide +kernel
theorem dX5_isBarred_18 : decode cX5_isBarred 18 = .ok (.aload_n 0, 1) := by decide +kernel
theorem dX5_isBarred_19 : decode cX5_isBarred 19 = .ok (.iload_n 1, 1) := by decide +kernel
theorem dX5_isBarred_20 : decode cX5_isBarred 20 = .ok (.invokevirtual 201, 3) := by decide +kernel
theorem dX5_isBarred_23 : decode cX5_isBarred 23 = .ok (.ifCond .eq 15, 3) := by decide +kernel
theorem dX5_isBarred_26 : decode cX5_isBarred 26 = .ok (.aload_n 0, 1) := by decide +kernel
theorem dX5_isBarred_27 : decode cX5_isBarred 27 = .ok (.invokevirtual 204, 3) := by decide +kernel
theorem dX5_isBarred_30 : decode cX5_isBarred 30 = .ok (.iconst (-1), 1) := by decide +kernel
theorem dX5_isBarred_31 : decode cX5_isBarred 31 = .ok (.if_icmp .ne 7, 3) := by decide +kernel
theorem dX5_isBarred_34 : decode cX5_isBarred 34 = .ok (.iconst 1, 1) := by decide +kernel
theorem dX5_isBarred_35 : decode cX5_isBarred 35 = .ok (.goto 4, 3) := by decide +kernel
theorem dX5_isBarred_38 : decode cX5_isBarred 38 = .ok (.iconst 0, 1) := by decide +kernel
theorem dX5_isBarred_39 : decode cX5_isBarred 39 = .ok (.ireturn, 1) := by decide +kernel
set_option maxRecDepth 20000 in
theorem ggX5_deniesOnlyWhatIsSaid_X1_sizeOf : GoodIn wsX5_deniesOnlyWhatIsSaid wsX1_sizeOf := goodIn_r _ [7, 8, 29, 30, 31, 32, 33] (by decide +kernel) (by decide +kernel)
set_option maxRecDepth 20000 in
theorem gX5_deniesOnlyWhatIsSaid_X1_sizeOf : GoodIn wsX5_deniesOnlyWhatIsSaid (wsV RX5 109 RX1 yX1_sizeOf wsX1_sizeOf) := goodIn_app (goodIn_of _ (by decide +kernel)) ggX5_deniesOnlyWhatIsSaid_X1_sizeOf
set_option maxRecDepth 20000 in
theorem ggX5_deniesOnlyWhatIsSaid_X1_literalAt : GoodIn wsX5_deniesOnlyWhatIsSaid wsX1_literalAt := goodIn_r _ [12, 13, 29, 30, 31, 32, 33] (by decide +kernel) (by decide +kernel)
set_option maxRecDepth 20000 in
theorem gX5_deniesOnlyWhatIsSaid_X1_literalAt : GoodIn wsX5_deniesOnlyWhatIsSaid (wsV RX5 161 RX1 yX1_literalAt wsX1_literalAt) := goodIn_app (goodIn_of _ (by decide +kernel)) ggX5_deniesOnlyWhatIsSaid_X1_literalAt
set_option maxRecDepth 20000 in
theorem ggX5_deniesOnlyWhatIsSaid_X1_saysIs : GoodIn wsX5_deniesOnlyWhatIsSaid wsX1_saysIs := goodIn_r _ [16] (by decide +kernel) (by decide +kernel)
set_option maxRecDepth 20000 in
theorem gX5_deniesOnlyWhatIsSaid_X1_saysIs : GoodIn wsX5_deniesOnlyWhatIsSaid (va_wsS RX5 173 yX1_saysIs wsX1_saysIs) := goodIn_app (goodIn_of _ (by decide +kernel)) ggX5_deniesOnlyWhatIsSaid_X1_saysIs
set_option maxRecDepth 20000 in
theorem ggX5_deniesOnlyWhatIsSaid_X1_cellOf : GoodIn wsX5_deniesOnlyWhatIsSaid wsX1_cellOf := goodIn_r _ [19] (by decide +kernel) (by decide +kernel)
set_option maxRecDepth 20000 in
theorem gX5_deniesOnlyWhatIsSaid_X1_cellOf : GoodIn wsX5_deniesOnlyWhatIsSaid (va_wsS RX5 167 yX1_cellOf wsX1_cellOf) := goodIn_app (goodIn_of _ (by decide +kernel)) ggX5_deniesOnlyWhatIsSaid_X1_cellOf
set_option maxRecDepth 20000 in
theorem ggX5_deniesOnlyWhatIsSaid_X1_symbolOf : GoodIn wsX5_deniesOnlyWhatIsSaid wsX1_symbolOf := goodIn_r _ [22] (by decide +kernel) (by decide +kernel)
set_option maxRecDepth 20000 in
theorem gX5_deniesOnlyWhatIsSaid_X1_symbolOf : GoodIn wsX5_deniesOnlyWhatIsSaid (va_wsS RX5 170 yX1_symbolOf wsX1_symbolOf) := goodIn_app (goodIn_of _ (by decide +kernel)) ggX5_deniesOnlyWhatIsSaid_X1_symbolOf
theorem dX5_deniesOnlyWhatIsSaid_0 : decode cX5_deniesOnlyWhatIsSaid 0 = .ok (.iconst 0, 1) := by decide +kernel
theorem dX5_deniesOnlyWhatIsSaid_1 : decode cX5_deniesOnlyWhatIsSaid 1 = .ok (.istore_n 2, 1) := by decide +kernel
theorem dX5_deniesOnlyWhatIsSaid_2 : decode cX5_deniesOnlyWhatIsSaid 2 = .ok (.iload_n 2, 1) := by decide +kernel
theorem dX5_deniesOnlyWhatIsSaid_3 : decode cX5_deniesOnlyWhatIsSaid 3 = .ok (.aload_n 0, 1) := by decide +kernel
theorem dX5_deniesOnlyWhatIsSaid_4 : decode cX5_deniesOnlyWhatIsSaid 4 = .ok (.getfield 30, 3) := by decide +kernel
theorem dX5_deniesOnlyWhatIsSaid_7 : decode cX5_deniesOnlyWhatIsSaid 7 = .ok (.iload_n 1, 1) := by decide +kernel
theorem dX5_deniesOnlyWhatIsSaid_8 : decode cX5_deniesOnlyWhatIsSaid 8 = .ok (.invokevirtual 109, 3) := by decide +kernel
theorem dX5_deniesOnlyWhatIsSaid_11 : decode cX5_deniesOnlyWhatIsSaid 11 = .ok (.if_icmp .ge 44, 3) := by decide +kernel
theorem dX5_deniesOnlyWhatIsSaid_14 : decode cX5_deniesOnlyWhatIsSaid 14 = .ok (.aload_n 0, 1) := by decide +kernel
theorem dX5_deniesOnlyWhatIsSaid_15 : decode cX5_deniesOnlyWhatIsSaid 15 = .ok (.getfield 30, 3) := by decide +kernel
theorem dX5_deniesOnlyWhatIsSaid_18 : decode cX5_deniesOnlyWhatIsSaid 18 = .ok (.iload_n 1, 1) := by decide +kernel
theorem dX5_deniesOnlyWhatIsSaid_19 : decode cX5_deniesOnlyWhatIsSaid 19 = .ok (.iload_n 2, 1) := by decide +kernel
theorem dX5_deniesOnlyWhatIsSaid_20 : decode cX5_deniesOnlyWhatIsSaid 20 = .ok (.invokevirtual 161, 3) := by decide +kernel
theorem dX5_deniesOnlyWhatIsSaid_23 : decode cX5_deniesOnlyWhatIsSaid 23 = .ok (.istore_n 3, 1) := by decide +kernel
theorem dX5_deniesOnlyWhatIsSaid_24 : decode cX5_deniesOnlyWhatIsSaid 24 = .ok (.iload_n 3, 1) := by decide +kernel
theorem dX5_deniesOnlyWhatIsSaid_25 : decode cX5_deniesOnlyWhatIsSaid 25 = .ok (.invokestatic 173, 3) := by decide +kernel
theorem dX5_deniesOnlyWhatIsSaid_28 : decode cX5_deniesOnlyWhatIsSaid 28 = .ok (.ifCond .ne 19, 3) := by decide +kernel
theorem dX5_deniesOnlyWhatIsSaid_31 : decode cX5_deniesOnlyWhatIsSaid 31 = .ok (.aload_n 0, 1) := by decide +kernel
theorem dX5_deniesOnlyWhatIsSaid_32 : decode cX5_deniesOnlyWhatIsSaid 32 = .ok (.getfield 50, 3) := by decide +kernel
theorem dX5_deniesOnlyWhatIsSaid_35 : decode cX5_deniesOnlyWhatIsSaid 35 = .ok (.iload_n 3, 1) := by decide +kernel
theorem dX5_deniesOnlyWhatIsSaid_36 : decode cX5_deniesOnlyWhatIsSaid 36 = .ok (.invokestatic 167, 3) := by decide +kernel
theorem dX5_deniesOnlyWhatIsSaid_39 : decode cX5_deniesOnlyWhatIsSaid 39 = .ok (.iaload, 1) := by decide +kernel
theorem dX5_deniesOnlyWhatIsSaid_40 : decode cX5_deniesOnlyWhatIsSaid 40 = .ok (.iload_n 3, 1) := by decide +kernel
theorem dX5_deniesOnlyWhatIsSaid_41 : decode cX5_deniesOnlyWhatIsSaid 41 = .ok (.invokestatic 170, 3) := by decide +kernel
theorem dX5_deniesOnlyWhatIsSaid_44 : decode cX5_deniesOnlyWhatIsSaid 44 = .ok (.if_icmp .eq 5, 3) := by decide +kernel
theorem dX5_deniesOnlyWhatIsSaid_47 : decode cX5_deniesOnlyWhatIsSaid 47 = .ok (.iconst 0, 1) := by decide +kernel
theorem dX5_deniesOnlyWhatIsSaid_48 : decode cX5_deniesOnlyWhatIsSaid 48 = .ok (.ireturn, 1) := by decide +kernel
theorem dX5_deniesOnlyWhatIsSaid_49 : decode cX5_deniesOnlyWhatIsSaid 49 = .ok (.iinc 2 1, 3) := by decide +kernel
theorem dX5_deniesOnlyWhatIsSaid_52 : decode cX5_deniesOnlyWhatIsSaid 52 = .ok (.goto (-50), 3) := by decide +kernel
theorem dX5_deniesOnlyWhatIsSaid_55 : decode cX5_deniesOnlyWhatIsSaid 55 = .ok (.iconst 1, 1) := by decide +kernel
theorem dX5_deniesOnlyWhatIsSaid_56 : decode cX5_deniesOnlyWhatIsSaid 56 = .ok (.ireturn, 1) := by decide +kernel
