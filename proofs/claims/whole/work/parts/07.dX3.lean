theorem dX3_init_0 : decode cX3_init 0 = .ok (.aload_n 0, 1) := by decide +kernel
theorem dX3_init_1 : decode cX3_init 1 = .ok (.invokespecial 3, 3) := by decide +kernel
theorem dX3_init_4 : decode cX3_init 4 = .ok (.aload_n 0, 1) := by decide +kernel
theorem dX3_init_5 : decode cX3_init 5 = .ok (.bipush 30, 2) := by decide +kernel
theorem dX3_init_7 : decode cX3_init 7 = .ok (.newarray .int, 2) := by decide +kernel
theorem dX3_init_9 : decode cX3_init 9 = .ok (.putfield 11, 3) := by decide +kernel
theorem dX3_init_12 : decode cX3_init 12 = .ok (.aload_n 0, 1) := by decide +kernel
theorem dX3_init_13 : decode cX3_init 13 = .ok (.bipush 30, 2) := by decide +kernel
theorem dX3_init_15 : decode cX3_init 15 = .ok (.newarray .int, 2) := by decide +kernel
theorem dX3_init_17 : decode cX3_init 17 = .ok (.putfield 15, 3) := by decide +kernel
theorem dX3_init_20 : decode cX3_init 20 = .ok (.aload_n 0, 1) := by decide +kernel
theorem dX3_init_21 : decode cX3_init 21 = .ok (.bipush 30, 2) := by decide +kernel
theorem dX3_init_23 : decode cX3_init 23 = .ok (.newarray .int, 2) := by decide +kernel
theorem dX3_init_25 : decode cX3_init 25 = .ok (.putfield 18, 3) := by decide +kernel
theorem dX3_init_28 : decode cX3_init 28 = .ok (.aload_n 0, 1) := by decide +kernel
theorem dX3_init_29 : decode cX3_init 29 = .ok (.sipush 270, 3) := by decide +kernel
theorem dX3_init_32 : decode cX3_init 32 = .ok (.newarray .int, 2) := by decide +kernel
theorem dX3_init_34 : decode cX3_init 34 = .ok (.putfield 21, 3) := by decide +kernel
theorem dX3_init_37 : decode cX3_init 37 = .ok (.aload_n 0, 1) := by decide +kernel
theorem dX3_init_38 : decode cX3_init 38 = .ok (.bipush 16, 2) := by decide +kernel
theorem dX3_init_40 : decode cX3_init 40 = .ok (.newarray .int, 2) := by decide +kernel
theorem dX3_init_42 : decode cX3_init 42 = .ok (.putfield 26, 3) := by decide +kernel
theorem dX3_init_45 : decode cX3_init 45 = .ok (.aload_n 0, 1) := by decide +kernel
theorem dX3_init_46 : decode cX3_init 46 = .ok (.iconst 0, 1) := by decide +kernel
theorem dX3_init_47 : decode cX3_init 47 = .ok (.putfield 29, 3) := by decide +kernel
theorem dX3_init_50 : decode cX3_init 50 = .ok (.aload_n 0, 1) := by decide +kernel
theorem dX3_init_51 : decode cX3_init 51 = .ok (.aload_n 1, 1) := by decide +kernel
theorem dX3_init_52 : decode cX3_init 52 = .ok (.putfield 33, 3) := by decide +kernel
theorem dX3_init_55 : decode cX3_init 55 = .ok (.return_, 1) := by decide +kernel
theorem dX3_count_0 : decode cX3_count 0 = .ok (.aload_n 0, 1) := by decide +kernel
theorem dX3_count_1 : decode cX3_count 1 = .ok (.getfield 29, 3) := by decide +kernel
theorem dX3_count_4 : decode cX3_count 4 = .ok (.ireturn, 1) := by decide +kernel
theorem dX3_has_0 : decode cX3_has 0 = .ok (.iload_n 1, 1) := by decide +kernel
theorem dX3_has_1 : decode cX3_has 1 = .ok (.ifCond .lt 15, 3) := by decide +kernel
theorem dX3_has_4 : decode cX3_has 4 = .ok (.iload_n 1, 1) := by decide +kernel
theorem dX3_has_5 : decode cX3_has 5 = .ok (.aload_n 0, 1) := by decide +kernel
theorem dX3_has_6 : decode cX3_has 6 = .ok (.getfield 29, 3) := by decide +kernel
theorem dX3_has_9 : decode cX3_has 9 = .ok (.if_icmp .ge 7, 3) := by decide +kernel
theorem dX3_has_12 : decode cX3_has 12 = .ok (.iconst 1, 1) := by decide +kernel
theorem dX3_has_13 : decode cX3_has 13 = .ok (.goto 4, 3) := by decide +kernel
theorem dX3_has_16 : decode cX3_has 16 = .ok (.iconst 0, 1) := by decide +kernel
theorem dX3_has_17 : decode cX3_has 17 = .ok (.ireturn, 1) := by decide +kernel
theorem dX3_append_0 : decode cX3_append 0 = .ok (.aload_n 0, 1) := by decide +kernel
theorem dX3_append_1 : decode cX3_append 1 = .ok (.getfield 29, 3) := by decide +kernel
theorem dX3_append_4 : decode cX3_append 4 = .ok (.bipush 30, 2) := by decide +kernel
theorem dX3_append_6 : decode cX3_append 6 = .ok (.if_icmp .lt 5, 3) := by decide +kernel
theorem dX3_append_9 : decode cX3_append 9 = .ok (.iconst (-1), 1) := by decide +kernel
theorem dX3_append_10 : decode cX3_append 10 = .ok (.ireturn, 1) := by decide +kernel
theorem dX3_append_11 : decode cX3_append 11 = .ok (.aload_n 0, 1) := by decide +kernel
theorem dX3_append_12 : decode cX3_append 12 = .ok (.getfield 11, 3) := by decide +kernel
theorem dX3_append_15 : decode cX3_append 15 = .ok (.aload_n 0, 1) := by decide +kernel
theorem dX3_append_16 : decode cX3_append 16 = .ok (.getfield 29, 3) := by decide +kernel
theorem dX3_append_19 : decode cX3_append 19 = .ok (.iload_n 1, 1) := by decide +kernel
theorem dX3_append_20 : decode cX3_append 20 = .ok (.iastore, 1) := by decide +kernel
theorem dX3_append_21 : decode cX3_append 21 = .ok (.aload_n 0, 1) := by decide +kernel
theorem dX3_append_22 : decode cX3_append 22 = .ok (.getfield 15, 3) := by decide +kernel
theorem dX3_append_25 : decode cX3_append 25 = .ok (.aload_n 0, 1) := by decide +kernel
theorem dX3_append_26 : decode cX3_append 26 = .ok (.getfield 29, 3) := by decide +kernel
theorem dX3_append_29 : decode cX3_append 29 = .ok (.iload_n 2, 1) := by decide +kernel
theorem dX3_append_30 : decode cX3_append 30 = .ok (.iastore, 1) := by decide +kernel
theorem dX3_append_31 : decode cX3_append 31 = .ok (.aload_n 0, 1) := by decide +kernel
theorem dX3_append_32 : decode cX3_append 32 = .ok (.dup, 1) := by decide +kernel
theorem dX3_append_33 : decode cX3_append 33 = .ok (.getfield 29, 3) := by decide +kernel
theorem dX3_append_36 : decode cX3_append 36 = .ok (.iconst 1, 1) := by decide +kernel
theorem dX3_append_37 : decode cX3_append 37 = .ok (.iadd, 1) := by decide +kernel
theorem dX3_append_38 : decode cX3_append 38 = .ok (.putfield 29, 3) := by decide +kernel
theorem dX3_append_41 : decode cX3_append 41 = .ok (.aload_n 0, 1) := by decide +kernel
theorem dX3_append_42 : decode cX3_append 42 = .ok (.getfield 29, 3) := by decide +kernel
theorem dX3_append_45 : decode cX3_append 45 = .ok (.iconst 1, 1) := by decide +kernel
theorem dX3_append_46 : decode cX3_append 46 = .ok (.isub, 1) := by decide +kernel
theorem dX3_append_47 : decode cX3_append 47 = .ok (.ireturn, 1) := by decide +kernel
set_option maxRecDepth 20000 in
theorem ggX3_addCell_X3_cellAt : GoodIn wsX3_addCell wsX3_cellAt := goodIn_r _ [7, 2, 8, 9, 10, 11, 12, 13, 14] (by decide +kernel) (by decide +kernel)
set_option maxRecDepth 20000 in
theorem gX3_addCell_X3_cellAt : GoodIn wsX3_addCell (wsV RX3 37 RX3 yX3_cellAt wsX3_cellAt) := goodIn_app (goodIn_of _ (by decide +kernel)) ggX3_addCell_X3_cellAt
theorem dX3_addCell_0 : decode cX3_addCell 0 = .ok (.aload_n 0, 1) := by decide +kernel
theorem dX3_addCell_1 : decode cX3_addCell 1 = .ok (.getfield 18, 3) := by decide +kernel
theorem dX3_addCell_4 : decode cX3_addCell 4 = .ok (.iload_n 1, 1) := by decide +kernel
theorem dX3_addCell_5 : decode cX3_addCell 5 = .ok (.iaload, 1) := by decide +kernel
theorem dX3_addCell_6 : decode cX3_addCell 6 = .ok (.istore_n 3, 1) := by decide +kernel
theorem dX3_addCell_7 : decode cX3_addCell 7 = .ok (.iload_n 3, 1) := by decide +kernel
theorem dX3_addCell_8 : decode cX3_addCell 8 = .ok (.bipush 9, 2) := by decide +kernel
theorem dX3_addCell_10 : decode cX3_addCell 10 = .ok (.if_icmp .lt 5, 3) := by decide +kernel
theorem dX3_addCell_13 : decode cX3_addCell 13 = .ok (.iconst 0, 1) := by decide +kernel
theorem dX3_addCell_14 : decode cX3_addCell 14 = .ok (.ireturn, 1) := by decide +kernel
theorem dX3_addCell_15 : decode cX3_addCell 15 = .ok (.iconst 0, 1) := by decide +kernel
theorem dX3_addCell_16 : decode cX3_addCell 16 = .ok (.istore 4, 2) := by decide +kernel
theorem dX3_addCell_18 : decode cX3_addCell 18 = .ok (.iload 4, 2) := by decide +kernel
theorem dX3_addCell_20 : decode cX3_addCell 20 = .ok (.iload_n 3, 1) := by decide +kernel
theorem dX3_addCell_21 : decode cX3_addCell 21 = .ok (.if_icmp .ge 22, 3) := by decide +kernel
theorem dX3_addCell_24 : decode cX3_addCell 24 = .ok (.aload_n 0, 1) := by decide +kernel
theorem dX3_addCell_25 : decode cX3_addCell 25 = .ok (.iload_n 1, 1) := by decide +kernel
theorem dX3_addCell_26 : decode cX3_addCell 26 = .ok (.iload 4, 2) := by decide +kernel
theorem dX3_addCell_28 : decode cX3_addCell 28 = .ok (.invokevirtual 37, 3) := by decide +kernel
theorem dX3_addCell_31 : decode cX3_addCell 31 = .ok (.iload_n 2, 1) := by decide +kernel
theorem dX3_addCell_32 : decode cX3_addCell 32 = .ok (.if_icmp .ne 5, 3) := by decide +kernel
theorem dX3_addCell_35 : decode cX3_addCell 35 = .ok (.iconst 0, 1) := by decide +kernel
theorem dX3_addCell_36 : decode cX3_addCell 36 = .ok (.ireturn, 1) := by decide +kernel
theorem dX3_addCell_37 : decode cX3_addCell 37 = .ok (.iinc 4 1, 3) := by decide +kernel
theorem dX3_addCell_40 : decode cX3_addCell 40 = .ok (.goto (-22), 3) := by decide +kernel
theorem dX3_addCell_43 : decode cX3_addCell 43 = .ok (.aload_n 0, 1) := by decide +kernel
theorem dX3_addCell_44 : decode cX3_addCell 44 = .ok (.getfield 21, 3) := by decide +kernel
theorem dX3_addCell_47 : decode cX3_addCell 47 = .ok (.bipush 9, 2) := by decide +kernel
theorem dX3_addCell_49 : decode cX3_addCell 49 = .ok (.iload_n 1, 1) := by decide +kernel
theorem dX3_addCell_50 : decode cX3_addCell 50 = .ok (.imul, 1) := by decide +kernel
theorem dX3_addCell_51 : decode cX3_addCell 51 = .ok (.iload_n 3, 1) := by decide +kernel
theorem dX3_addCell_52 : decode cX3_addCell 52 = .ok (.iadd, 1) := by decide +kernel
theorem dX3_addCell_53 : decode cX3_addCell 53 = .ok (.iload_n 2, 1) := by decide +kernel
theorem dX3_addCell_54 : decode cX3_addCell 54 = .ok (.iastore, 1) := by decide +kernel
theorem dX3_addCell_55 : decode cX3_addCell 55 = .ok (.aload_n 0, 1) := by decide +kernel
theorem dX3_addCell_56 : decode cX3_addCell 56 = .ok (.getfield 18, 3) := by decide +kernel
theorem dX3_addCell_59 : decode cX3_addCell 59 = .ok (.iload_n 1, 1) := by decide +kernel
theorem dX3_addCell_60 : decode cX3_addCell 60 = .ok (.iload_n 3, 1) := by decide +kernel
theorem dX3_addCell_61 : decode cX3_addCell 61 = .ok (.iconst 1, 1) := by decide +kernel
theorem dX3_addCell_62 : decode cX3_addCell 62 = .ok (.iadd, 1) := by decide +kernel
theorem dX3_addCell_63 : decode cX3_addCell 63 = .ok (.iastore, 1) := by decide +kernel
theorem dX3_addCell_64 : decode cX3_addCell 64 = .ok (.iconst 1, 1) := by decide +kernel
theorem dX3_addCell_65 : decode cX3_addCell 65 = .ok (.ireturn, 1) := by decide +kernel
theorem dX3_cellAt_0 : decode cX3_cellAt 0 = .ok (.aload_n 0, 1) := by decide +kernel
theorem dX3_cellAt_1 : decode cX3_cellAt 1 = .ok (.getfield 21, 3) := by decide +kernel
theorem dX3_cellAt_4 : decode cX3_cellAt 4 = .ok (.bipush 9, 2) := by decide +kernel
theorem dX3_cellAt_6 : decode cX3_cellAt 6 = .ok (.iload_n 1, 1) := by decide +kernel
theorem dX3_cellAt_7 : decode cX3_cellAt 7 = .ok (.imul, 1) := by decide +kernel
theorem dX3_cellAt_8 : decode cX3_cellAt 8 = .ok (.iload_n 2, 1) := by decide +kernel
theorem dX3_cellAt_9 : decode cX3_cellAt 9 = .ok (.iadd, 1) := by decide +kernel
theorem dX3_cellAt_10 : decode cX3_cellAt 10 = .ok (.iaload, 1) := by decide +kernel
theorem dX3_cellAt_11 : decode cX3_cellAt 11 = .ok (.ireturn, 1) := by decide +kernel
set_option maxRecDepth 20000 in
theorem ggX3_allSaid_X3_cellAt : GoodIn wsX3_allSaid wsX3_cellAt := goodIn_r _ [6, 7, 8, 9, 10, 11, 12, 13, 14] (by decide +kernel) (by decide +kernel)
set_option maxRecDepth 20000 in
theorem gX3_allSaid_X3_cellAt : GoodIn wsX3_allSaid (wsV RX3 37 RX3 yX3_cellAt wsX3_cellAt) := goodIn_app (goodIn_of _ (by decide +kernel)) ggX3_allSaid_X3_cellAt
theorem dX3_allSaid_0 : decode cX3_allSaid 0 = .ok (.iconst 0, 1) := by decide +kernel
theorem dX3_allSaid_1 : decode cX3_allSaid 1 = .ok (.istore_n 3, 1) := by decide +kernel
theorem dX3_allSaid_2 : decode cX3_allSaid 2 = .ok (.iload_n 3, 1) := by decide +kernel
theorem dX3_allSaid_3 : decode cX3_allSaid 3 = .ok (.aload_n 0, 1) := by decide +kernel
theorem dX3_allSaid_4 : decode cX3_allSaid 4 = .ok (.getfield 18, 3) := by decide +kernel
theorem dX3_allSaid_7 : decode cX3_allSaid 7 = .ok (.iload_n 1, 1) := by decide +kernel
theorem dX3_allSaid_8 : decode cX3_allSaid 8 = .ok (.iaload, 1) := by decide +kernel
theorem dX3_allSaid_9 : decode cX3_allSaid 9 = .ok (.if_icmp .ge 23, 3) := by decide +kernel
theorem dX3_allSaid_12 : decode cX3_allSaid 12 = .ok (.aload_n 2, 1) := by decide +kernel
theorem dX3_allSaid_13 : decode cX3_allSaid 13 = .ok (.aload_n 0, 1) := by decide +kernel
theorem dX3_allSaid_14 : decode cX3_allSaid 14 = .ok (.iload_n 1, 1) := by decide +kernel
theorem dX3_allSaid_15 : decode cX3_allSaid 15 = .ok (.iload_n 3, 1) := by decide +kernel
theorem dX3_allSaid_16 : decode cX3_allSaid 16 = .ok (.invokevirtual 37, 3) := by decide +kernel
theorem dX3_allSaid_19 : decode cX3_allSaid 19 = .ok (.iaload, 1) := by decide +kernel
theorem dX3_allSaid_20 : decode cX3_allSaid 20 = .ok (.iconst (-1), 1) := by decide +kernel
theorem dX3_allSaid_21 : decode cX3_allSaid 21 = .ok (.if_icmp .ne 5, 3) := by decide +kernel
theorem dX3_allSaid_24 : decode cX3_allSaid 24 = .ok (.iconst 0, 1) := by decide +kernel
theorem dX3_allSaid_25 : decode cX3_allSaid 25 = .ok (.ireturn, 1) := by decide +kernel
theorem dX3_allSaid_26 : decode cX3_allSaid 26 = .ok (.iinc 3 1, 3) := by decide +kernel
theorem dX3_allSaid_29 : decode cX3_allSaid 29 = .ok (.goto (-27), 3) := by decide +kernel
theorem dX3_allSaid_32 : decode cX3_allSaid 32 = .ok (.iconst 1, 1) := by decide +kernel
theorem dX3_allSaid_33 : decode cX3_allSaid 33 = .ok (.ireturn, 1) := by decide +kernel
set_option maxRecDepth 20000 in
theorem ggX3_meets_X3_areUnlike : GoodIn wsX3_meets wsX3_areUnlike := goodIn_r _ [9, 3, 10, 11, 12, 8, 13, 14, 44, 45, 46, 47, 48, 49, 50] (by decide +kernel) (by decide +kernel)
set_option maxRecDepth 20000 in
theorem gX3_meets_X3_areUnlike : GoodIn wsX3_meets (wsV RX3 41 RX3 yX3_areUnlike wsX3_areUnlike) := goodIn_app (goodIn_of _ (by decide +kernel)) ggX3_meets_X3_areUnlike
set_option maxRecDepth 20000 in
theorem ggX3_meets_X3_sum : GoodIn wsX3_meets wsX3_sum := goodIn_r _ [18, 3, 10, 11, 12, 8, 13, 14, 44, 45, 46, 47, 48, 49, 50] (by decide +kernel) (by decide +kernel)
set_option maxRecDepth 20000 in
theorem gX3_meets_X3_sum : GoodIn wsX3_meets (wsV RX3 45 RX3 yX3_sum wsX3_sum) := goodIn_app (goodIn_of _ (by decide +kernel)) ggX3_meets_X3_sum
set_option maxRecDepth 20000 in
theorem ggX3_meets_X3_rise : GoodIn wsX3_meets wsX3_rise := goodIn_r _ [22, 3, 10, 11, 12, 8, 13, 14, 44, 45, 46, 47, 48, 49, 50] (by decide +kernel) (by decide +kernel)
set_option maxRecDepth 20000 in
theorem gX3_meets_X3_rise : GoodIn wsX3_meets (wsV RX3 49 RX3 yX3_rise wsX3_rise) := goodIn_app (goodIn_of _ (by decide +kernel)) ggX3_meets_X3_rise
set_option maxRecDepth 20000 in
theorem ggX3_meets_X3_likeTheFirst : GoodIn wsX3_meets wsX3_likeTheFirst := goodIn_r _ [26, 3, 10, 11, 12, 8, 13, 14, 44, 45, 46, 47, 48, 49, 50] (by decide +kernel) (by decide +kernel)
set_option maxRecDepth 20000 in
theorem gX3_meets_X3_likeTheFirst : GoodIn wsX3_meets (wsV RX3 52 RX3 yX3_likeTheFirst wsX3_likeTheFirst) := goodIn_app (goodIn_of _ (by decide +kernel)) ggX3_meets_X3_likeTheFirst
set_option maxRecDepth 20000 in
theorem ggX3_meets_X3_cellsWithOne : GoodIn wsX3_meets wsX3_cellsWithOne := goodIn_r _ [30, 3, 10, 11, 12, 8, 13, 14, 44, 45, 46, 47, 48, 49, 50] (by decide +kernel) (by decide +kernel)
set_option maxRecDepth 20000 in
theorem gX3_meets_X3_cellsWithOne : GoodIn wsX3_meets (wsV RX3 55 RX3 yX3_cellsWithOne wsX3_cellsWithOne) := goodIn_app (goodIn_of _ (by decide +kernel)) ggX3_meets_X3_cellsWithOne
set_option maxRecDepth 20000 in
theorem ggX3_meets_X0_hangTogether : GoodIn wsX3_meets wsX0_hangTogether := goodIn_r _ [35, 36, 37, 38, 39, 34, 40, 41, 42, 43, 51, 52, 53, 54, 55] (by decide +kernel) (by decide +kernel)
set_option maxRecDepth 20000 in
theorem gX3_meets_X0_hangTogether : GoodIn wsX3_meets (wsV RX3 58 RX0 yX0_hangTogether wsX0_hangTogether) := goodIn_app (goodIn_of _ (by decide +kernel)) ggX3_meets_X0_hangTogether
theorem dX3_meets_0 : decode cX3_meets 0 = .ok (.aload_n 0, 1) := by decide +kernel
theorem dX3_meets_1 : decode cX3_meets 1 = .ok (.getfield 11, 3) := by decide +kernel
theorem dX3_meets_4 : decode cX3_meets 4 = .ok (.iload_n 1, 1) := by decide +kernel
theorem dX3_meets_5 : decode cX3_meets 5 = .ok (.iaload, 1) := by decide +kernel
theorem dX3_meets_6 : decode cX3_meets 6 = .ok (.tableswitch 95 0 3 #[30, 37, 58, 65], 30) := by decide +kernel
theorem dX3_meets_36 : decode cX3_meets 36 = .ok (.aload_n 0, 1) := by decide +kernel
theorem dX3_meets_37 : decode cX3_meets 37 = .ok (.iload_n 1, 1) := by decide +kernel
theorem dX3_meets_38 : decode cX3_meets 38 = .ok (.aload_n 2, 1) := by decide +kernel
theorem dX3_meets_39 : decode cX3_meets 39 = .ok (.invokevirtual 41, 3) := by decide +kernel
theorem dX3_meets_42 : decode cX3_meets 42 = .ok (.ireturn, 1) := by decide +kernel
theorem dX3_meets_43 : decode cX3_meets 43 = .ok (.aload_n 0, 1) := by decide +kernel
theorem dX3_meets_44 : decode cX3_meets 44 = .ok (.iload_n 1, 1) := by decide +kernel
theorem dX3_meets_45 : decode cX3_meets 45 = .ok (.aload_n 2, 1) := by decide +kernel
theorem dX3_meets_46 : decode cX3_meets 46 = .ok (.invokevirtual 45, 3) := by decide +kernel
theorem dX3_meets_49 : decode cX3_meets 49 = .ok (.aload_n 0, 1) := by decide +kernel
theorem dX3_meets_50 : decode cX3_meets 50 = .ok (.getfield 15, 3) := by decide +kernel
theorem dX3_meets_53 : decode cX3_meets 53 = .ok (.iload_n 1, 1) := by decide +kernel
theorem dX3_meets_54 : decode cX3_meets 54 = .ok (.iaload, 1) := by decide +kernel
theorem dX3_meets_55 : decode cX3_meets 55 = .ok (.if_icmp .ne 7, 3) := by decide +kernel
theorem dX3_meets_58 : decode cX3_meets 58 = .ok (.iconst 1, 1) := by decide +kernel
theorem dX3_meets_59 : decode cX3_meets 59 = .ok (.goto 4, 3) := by decide +kernel
theorem dX3_meets_62 : decode cX3_meets 62 = .ok (.iconst 0, 1) := by decide +kernel
theorem dX3_meets_63 : decode cX3_meets 63 = .ok (.ireturn, 1) := by decide +kernel
theorem dX3_meets_64 : decode cX3_meets 64 = .ok (.aload_n 0, 1) := by decide +kernel
theorem dX3_meets_65 : decode cX3_meets 65 = .ok (.iload_n 1, 1) := by decide +kernel
theorem dX3_meets_66 : decode cX3_meets 66 = .ok (.aload_n 2, 1) := by decide +kernel
theorem dX3_meets_67 : decode cX3_meets 67 = .ok (.invokevirtual 49, 3) := by decide +kernel
theorem dX3_meets_70 : decode cX3_meets 70 = .ok (.ireturn, 1) := by decide +kernel
theorem dX3_meets_71 : decode cX3_meets 71 = .ok (.aload_n 0, 1) := by decide +kernel
theorem dX3_meets_72 : decode cX3_meets 72 = .ok (.getfield 18, 3) := by decide +kernel
theorem dX3_meets_75 : decode cX3_meets 75 = .ok (.iload_n 1, 1) := by decide +kernel
theorem dX3_meets_76 : decode cX3_meets 76 = .ok (.iaload, 1) := by decide +kernel
theorem dX3_meets_77 : decode cX3_meets 77 = .ok (.ifCond .eq 18, 3) := by decide +kernel
theorem dX3_meets_80 : decode cX3_meets 80 = .ok (.aload_n 0, 1) := by decide +kernel
theorem dX3_meets_81 : decode cX3_meets 81 = .ok (.iload_n 1, 1) := by decide +kernel
theorem dX3_meets_82 : decode cX3_meets 82 = .ok (.aload_n 2, 1) := by decide +kernel
theorem dX3_meets_83 : decode cX3_meets 83 = .ok (.invokevirtual 52, 3) := by decide +kernel
theorem dX3_meets_86 : decode cX3_meets 86 = .ok (.aload_n 0, 1) := by decide +kernel
theorem dX3_meets_87 : decode cX3_meets 87 = .ok (.getfield 15, 3) := by decide +kernel
theorem dX3_meets_90 : decode cX3_meets 90 = .ok (.iload_n 1, 1) := by decide +kernel
theorem dX3_meets_91 : decode cX3_meets 91 = .ok (.iaload, 1) := by decide +kernel
theorem dX3_meets_92 : decode cX3_meets 92 = .ok (.if_icmp .ne 7, 3) := by decide +kernel
theorem dX3_meets_95 : decode cX3_meets 95 = .ok (.iconst 1, 1) := by decide +kernel
theorem dX3_meets_96 : decode cX3_meets 96 = .ok (.goto 4, 3) := by decide +kernel
theorem dX3_meets_99 : decode cX3_meets 99 = .ok (.iconst 0, 1) := by decide +kernel
theorem dX3_meets_100 : decode cX3_meets 100 = .ok (.ireturn, 1) := by decide +kernel
theorem dX3_meets_101 : decode cX3_meets 101 = .ok (.aload_n 0, 1) := by decide +kernel
theorem dX3_meets_102 : decode cX3_meets 102 = .ok (.getfield 33, 3) := by decide +kernel
theorem dX3_meets_105 : decode cX3_meets 105 = .ok (.aload_n 0, 1) := by decide +kernel
theorem dX3_meets_106 : decode cX3_meets 106 = .ok (.iload_n 1, 1) := by decide +kernel
theorem dX3_meets_107 : decode cX3_meets 107 = .ok (.aload_n 2, 1) := by decide +kernel
theorem dX3_meets_108 : decode cX3_meets 108 = .ok (.invokevirtual 55, 3) := by decide +kernel
theorem dX3_meets_111 : decode cX3_meets 111 = .ok (.invokevirtual 58, 3) := by decide +kernel
theorem dX3_meets_114 : decode cX3_meets 114 = .ok (.ireturn, 1) := by decide +kernel
set_option maxRecDepth 20000 in
theorem ggX3_areUnlike_X3_cellAt : GoodIn wsX3_areUnlike wsX3_cellAt := goodIn_r _ [6, 7, 8, 9, 10, 11, 12, 13, 14] (by decide +kernel) (by decide +kernel)
set_option maxRecDepth 20000 in
theorem gX3_areUnlike_X3_cellAt : GoodIn wsX3_areUnlike (wsV RX3 37 RX3 yX3_cellAt wsX3_cellAt) := goodIn_app (goodIn_of _ (by decide +kernel)) ggX3_areUnlike_X3_cellAt
theorem dX3_areUnlike_0 : decode cX3_areUnlike 0 = .ok (.iconst 0, 1) := by decide +kernel
theorem dX3_areUnlike_1 : decode cX3_areUnlike 1 = .ok (.istore_n 3, 1) := by decide +kernel
theorem dX3_areUnlike_2 : decode cX3_areUnlike 2 = .ok (.iconst 0, 1) := by decide +kernel
theorem dX3_areUnlike_3 : decode cX3_areUnlike 3 = .ok (.istore 4, 2) := by decide +kernel
theorem dX3_areUnlike_5 : decode cX3_areUnlike 5 = .ok (.iload 4, 2) := by decide +kernel
theorem dX3_areUnlike_7 : decode cX3_areUnlike 7 = .ok (.aload_n 0, 1) := by decide +kernel
theorem dX3_areUnlike_8 : decode cX3_areUnlike 8 = .ok (.getfield 18, 3) := by decide +kernel
theorem dX3_areUnlike_11 : decode cX3_areUnlike 11 = .ok (.iload_n 1, 1) := by decide +kernel
theorem dX3_areUnlike_12 : decode cX3_areUnlike 12 = .ok (.iaload, 1) := by decide +kernel
theorem dX3_areUnlike_13 : decode cX3_areUnlike 13 = .ok (.if_icmp .ge 36, 3) := by decide +kernel
theorem dX3_areUnlike_16 : decode cX3_areUnlike 16 = .ok (.iconst 1, 1) := by decide +kernel
theorem dX3_areUnlike_17 : decode cX3_areUnlike 17 = .ok (.aload_n 2, 1) := by decide +kernel
theorem dX3_areUnlike_18 : decode cX3_areUnlike 18 = .ok (.aload_n 0, 1) := by decide +kernel
theorem dX3_areUnlike_19 : decode cX3_areUnlike 19 = .ok (.iload_n 1, 1) := by decide +kernel
theorem dX3_areUnlike_20 : decode cX3_areUnlike 20 = .ok (.iload 4, 2) := by decide +kernel
theorem dX3_areUnlike_22 : decode cX3_areUnlike 22 = .ok (.invokevirtual 37, 3) := by decide +kernel
theorem dX3_areUnlike_25 : decode cX3_areUnlike 25 = .ok (.iaload, 1) := by decide +kernel
theorem dX3_areUnlike_26 : decode cX3_areUnlike 26 = .ok (.ishl, 1) := by decide +kernel
theorem dX3_areUnlike_27 : decode cX3_areUnlike 27 = .ok (.istore 5, 2) := by decide +kernel
theorem dX3_areUnlike_29 : decode cX3_areUnlike 29 = .ok (.iload_n 3, 1) := by decide +kernel
theorem dX3_areUnlike_30 : decode cX3_areUnlike 30 = .ok (.iload 5, 2) := by decide +kernel
theorem dX3_areUnlike_32 : decode cX3_areUnlike 32 = .ok (.iand, 1) := by decide +kernel
theorem dX3_areUnlike_33 : decode cX3_areUnlike 33 = .ok (.ifCond .eq 5, 3) := by decide +kernel
theorem dX3_areUnlike_36 : decode cX3_areUnlike 36 = .ok (.iconst 0, 1) := by decide +kernel
theorem dX3_areUnlike_37 : decode cX3_areUnlike 37 = .ok (.ireturn, 1) := by decide +kernel
theorem dX3_areUnlike_38 : decode cX3_areUnlike 38 = .ok (.iload_n 3, 1) := by decide +kernel
theorem dX3_areUnlike_39 : decode cX3_areUnlike 39 = .ok (.iload 5, 2) := by decide +kernel
theorem dX3_areUnlike_41 : decode cX3_areUnlike 41 = .ok (.ior, 1) := by decide +kernel
theorem dX3_areUnlike_42 : decode cX3_areUnlike 42 = .ok (.istore_n 3, 1) := by decide +kernel
theorem dX3_areUnlike_43 : decode cX3_areUnlike 43 = .ok (.iinc 4 1, 3) := by decide +kernel
theorem dX3_areUnlike_46 : decode cX3_areUnlike 46 = .ok (.goto (-41), 3) := by decide +kernel
theorem dX3_areUnlike_49 : decode cX3_areUnlike 49 = .ok (.iconst 1, 1) := by decide +kernel
theorem dX3_areUnlike_50 : decode cX3_areUnlike 50 = .ok (.ireturn, 1) := by decide +kernel
set_option maxRecDepth 20000 in
theorem ggX3_sum_X3_cellAt : GoodIn wsX3_sum wsX3_cellAt := goodIn_r _ [6, 7, 8, 9, 10, 11, 12, 13, 14] (by decide +kernel) (by decide +kernel)
set_option maxRecDepth 20000 in
theorem gX3_sum_X3_cellAt : GoodIn wsX3_sum (wsV RX3 37 RX3 yX3_cellAt wsX3_cellAt) := goodIn_app (goodIn_of _ (by decide +kernel)) ggX3_sum_X3_cellAt
theorem dX3_sum_0 : decode cX3_sum 0 = .ok (.iconst 0, 1) := by decide +kernel
theorem dX3_sum_1 : decode cX3_sum 1 = .ok (.istore_n 3, 1) := by decide +kernel
theorem dX3_sum_2 : decode cX3_sum 2 = .ok (.iconst 0, 1) := by decide +kernel
theorem dX3_sum_3 : decode cX3_sum 3 = .ok (.istore 4, 2) := by decide +kernel
theorem dX3_sum_5 : decode cX3_sum 5 = .ok (.iload 4, 2) := by decide +kernel
theorem dX3_sum_7 : decode cX3_sum 7 = .ok (.aload_n 0, 1) := by decide +kernel
theorem dX3_sum_8 : decode cX3_sum 8 = .ok (.getfield 18, 3) := by decide +kernel
theorem dX3_sum_11 : decode cX3_sum 11 = .ok (.iload_n 1, 1) := by decide +kernel
theorem dX3_sum_12 : decode cX3_sum 12 = .ok (.iaload, 1) := by decide +kernel
theorem dX3_sum_13 : decode cX3_sum 13 = .ok (.if_icmp .ge 21, 3) := by decide +kernel
theorem dX3_sum_16 : decode cX3_sum 16 = .ok (.iload_n 3, 1) := by decide +kernel
theorem dX3_sum_17 : decode cX3_sum 17 = .ok (.aload_n 2, 1) := by decide +kernel
theorem dX3_sum_18 : decode cX3_sum 18 = .ok (.aload_n 0, 1) := by decide +kernel
theorem dX3_sum_19 : decode cX3_sum 19 = .ok (.iload_n 1, 1) := by decide +kernel
theorem dX3_sum_20 : decode cX3_sum 20 = .ok (.iload 4, 2) := by decide +kernel
theorem dX3_sum_22 : decode cX3_sum 22 = .ok (.invokevirtual 37, 3) := by decide +kernel
theorem dX3_sum_25 : decode cX3_sum 25 = .ok (.iaload, 1) := by decide +kernel
theorem dX3_sum_26 : decode cX3_sum 26 = .ok (.iadd, 1) := by decide +kernel
theorem dX3_sum_27 : decode cX3_sum 27 = .ok (.istore_n 3, 1) := by decide +kernel
theorem dX3_sum_28 : decode cX3_sum 28 = .ok (.iinc 4 1, 3) := by decide +kernel
theorem dX3_sum_31 : decode cX3_sum 31 = .ok (.goto (-26), 3) := by decide +kernel
theorem dX3_sum_34 : decode cX3_sum 34 = .ok (.iload_n 3, 1) := by decide +kernel
theorem dX3_sum_35 : decode cX3_sum 35 = .ok (.ireturn, 1) := by decide +kernel
set_option maxRecDepth 20000 in
theorem ggX3_rise_X3_cellAt : GoodIn wsX3_rise wsX3_cellAt := goodIn_r _ [6, 7, 8, 9, 10, 11, 12, 13, 14] (by decide +kernel) (by decide +kernel)
set_option maxRecDepth 20000 in
theorem gX3_rise_X3_cellAt : GoodIn wsX3_rise (wsV RX3 37 RX3 yX3_cellAt wsX3_cellAt) := goodIn_app (goodIn_of _ (by decide +kernel)) ggX3_rise_X3_cellAt
theorem dX3_rise_0 : decode cX3_rise 0 = .ok (.iconst 1, 1) := by decide +kernel
theorem dX3_rise_1 : decode cX3_rise 1 = .ok (.istore_n 3, 1) := by decide +kernel
theorem dX3_rise_2 : decode cX3_rise 2 = .ok (.iload_n 3, 1) := by decide +kernel
theorem dX3_rise_3 : decode cX3_rise 3 = .ok (.aload_n 0, 1) := by decide +kernel
theorem dX3_rise_4 : decode cX3_rise 4 = .ok (.getfield 18, 3) := by decide +kernel
theorem dX3_rise_7 : decode cX3_rise 7 = .ok (.iload_n 1, 1) := by decide +kernel
theorem dX3_rise_8 : decode cX3_rise 8 = .ok (.iaload, 1) := by decide +kernel
theorem dX3_rise_9 : decode cX3_rise 9 = .ok (.if_icmp .ge 32, 3) := by decide +kernel
theorem dX3_rise_12 : decode cX3_rise 12 = .ok (.aload_n 2, 1) := by decide +kernel
theorem dX3_rise_13 : decode cX3_rise 13 = .ok (.aload_n 0, 1) := by decide +kernel
theorem dX3_rise_14 : decode cX3_rise 14 = .ok (.iload_n 1, 1) := by decide +kernel
theorem dX3_rise_15 : decode cX3_rise 15 = .ok (.iload_n 3, 1) := by decide +kernel
theorem dX3_rise_16 : decode cX3_rise 16 = .ok (.invokevirtual 37, 3) := by decide +kernel
theorem dX3_rise_19 : decode cX3_rise 19 = .ok (.iaload, 1) := by decide +kernel
theorem dX3_rise_20 : decode cX3_rise 20 = .ok (.aload_n 2, 1) := by decide +kernel
theorem dX3_rise_21 : decode cX3_rise 21 = .ok (.aload_n 0, 1) := by decide +kernel
theorem dX3_rise_22 : decode cX3_rise 22 = .ok (.iload_n 1, 1) := by decide +kernel
theorem dX3_rise_23 : decode cX3_rise 23 = .ok (.iload_n 3, 1) := by decide +kernel
theorem dX3_rise_24 : decode cX3_rise 24 = .ok (.iconst 1, 1) := by decide +kernel
theorem dX3_rise_25 : decode cX3_rise 25 = .ok (.isub, 1) := by decide +kernel
theorem dX3_rise_26 : decode cX3_rise 26 = .ok (.invokevirtual 37, 3) := by decide +kernel
theorem dX3_rise_29 : decode cX3_rise 29 = .ok (.iaload, 1) := by decide +kernel
theorem dX3_rise_30 : decode cX3_rise 30 = .ok (.if_icmp .gt 5, 3) := by decide +kernel
theorem dX3_rise_33 : decode cX3_rise 33 = .ok (.iconst 0, 1) := by decide +kernel
theorem dX3_rise_34 : decode cX3_rise 34 = .ok (.ireturn, 1) := by decide +kernel
theorem dX3_rise_35 : decode cX3_rise 35 = .ok (.iinc 3 1, 3) := by decide +kernel
theorem dX3_rise_38 : decode cX3_rise 38 = .ok (.goto (-36), 3) := by decide +kernel
theorem dX3_rise_41 : decode cX3_rise 41 = .ok (.iconst 1, 1) := by decide +kernel
theorem dX3_rise_42 : decode cX3_rise 42 = .ok (.ireturn, 1) := by decide +kernel
set_option maxRecDepth 20000 in
theorem ggX3_likeTheFirst_X3_cellAt : GoodIn wsX3_likeTheFirst wsX3_cellAt := goodIn_r _ [6, 7, 8, 9, 10, 11, 12, 13, 14] (by decide +kernel) (by decide +kernel)
set_option maxRecDepth 20000 in
theorem gX3_likeTheFirst_X3_cellAt : GoodIn wsX3_likeTheFirst (wsV RX3 37 RX3 yX3_cellAt wsX3_cellAt) := goodIn_app (goodIn_of _ (by decide +kernel)) ggX3_likeTheFirst_X3_cellAt
theorem dX3_likeTheFirst_0 : decode cX3_likeTheFirst 0 = .ok (.aload_n 2, 1) := by decide +kernel
theorem dX3_likeTheFirst_1 : decode cX3_likeTheFirst 1 = .ok (.aload_n 0, 1) := by decide +kernel
theorem dX3_likeTheFirst_2 : decode cX3_likeTheFirst 2 = .ok (.iload_n 1, 1) := by decide +kernel
theorem dX3_likeTheFirst_3 : decode cX3_likeTheFirst 3 = .ok (.iconst 0, 1) := by decide +kernel
theorem dX3_likeTheFirst_4 : decode cX3_likeTheFirst 4 = .ok (.invokevirtual 37, 3) := by decide +kernel
theorem dX3_likeTheFirst_7 : decode cX3_likeTheFirst 7 = .ok (.iaload, 1) := by decide +kernel
theorem dX3_likeTheFirst_8 : decode cX3_likeTheFirst 8 = .ok (.istore_n 3, 1) := by decide +kernel
theorem dX3_likeTheFirst_9 : decode cX3_likeTheFirst 9 = .ok (.iconst 0, 1) := by decide +kernel
theorem dX3_likeTheFirst_10 : decode cX3_likeTheFirst 10 = .ok (.istore 4, 2) := by decide +kernel
theorem dX3_likeTheFirst_12 : decode cX3_likeTheFirst 12 = .ok (.iconst 0, 1) := by decide +kernel
theorem dX3_likeTheFirst_13 : decode cX3_likeTheFirst 13 = .ok (.istore 5, 2) := by decide +kernel
theorem dX3_likeTheFirst_15 : decode cX3_likeTheFirst 15 = .ok (.iload 5, 2) := by decide +kernel
theorem dX3_likeTheFirst_17 : decode cX3_likeTheFirst 17 = .ok (.aload_n 0, 1) := by decide +kernel
theorem dX3_likeTheFirst_18 : decode cX3_likeTheFirst 18 = .ok (.getfield 18, 3) := by decide +kernel
theorem dX3_likeTheFirst_21 : decode cX3_likeTheFirst 21 = .ok (.iload_n 1, 1) := by decide +kernel
theorem dX3_likeTheFirst_22 : decode cX3_likeTheFirst 22 = .ok (.iaload, 1) := by decide +kernel
theorem dX3_likeTheFirst_23 : decode cX3_likeTheFirst 23 = .ok (.if_icmp .ge 25, 3) := by decide +kernel
theorem dX3_likeTheFirst_26 : decode cX3_likeTheFirst 26 = .ok (.aload_n 2, 1) := by decide +kernel
theorem dX3_likeTheFirst_27 : decode cX3_likeTheFirst 27 = .ok (.aload_n 0, 1) := by decide +kernel
theorem dX3_likeTheFirst_28 : decode cX3_likeTheFirst 28 = .ok (.iload_n 1, 1) := by decide +kernel
theorem dX3_likeTheFirst_29 : decode cX3_likeTheFirst 29 = .ok (.iload 5, 2) := by decide +kernel
theorem dX3_likeTheFirst_31 : decode cX3_likeTheFirst 31 = .ok (.invokevirtual 37, 3) := by decide +kernel
theorem dX3_likeTheFirst_34 : decode cX3_likeTheFirst 34 = .ok (.iaload, 1) := by decide +kernel
theorem dX3_likeTheFirst_35 : decode cX3_likeTheFirst 35 = .ok (.iload_n 3, 1) := by decide +kernel
theorem dX3_likeTheFirst_36 : decode cX3_likeTheFirst 36 = .ok (.if_icmp .ne 6, 3) := by decide +kernel
theorem dX3_likeTheFirst_39 : decode cX3_likeTheFirst 39 = .ok (.iinc 4 1, 3) := by decide +kernel
theorem dX3_likeTheFirst_42 : decode cX3_likeTheFirst 42 = .ok (.iinc 5 1, 3) := by decide +kernel
theorem dX3_likeTheFirst_45 : decode cX3_likeTheFirst 45 = .ok (.goto (-30), 3) := by decide +kernel
theorem dX3_likeTheFirst_48 : decode cX3_likeTheFirst 48 = .ok (.iload 4, 2) := by decide +kernel
theorem dX3_likeTheFirst_50 : decode cX3_likeTheFirst 50 = .ok (.ireturn, 1) := by decide +kernel
set_option maxRecDepth 20000 in
theorem ggX3_cellsWithOne_X3_cellAt : GoodIn wsX3_cellsWithOne wsX3_cellAt := goodIn_r _ [6, 7, 8, 9, 10, 11, 12, 13, 14] (by decide +kernel) (by decide +kernel)
set_option maxRecDepth 20000 in
theorem gX3_cellsWithOne_X3_cellAt : GoodIn wsX3_cellsWithOne (wsV RX3 37 RX3 yX3_cellAt wsX3_cellAt) := goodIn_app (goodIn_of _ (by decide +kernel)) ggX3_cellsWithOne_X3_cellAt
theorem dX3_cellsWithOne_0 : decode cX3_cellsWithOne 0 = .ok (.iconst 0, 1) := by decide +kernel
theorem dX3_cellsWithOne_1 : decode cX3_cellsWithOne 1 = .ok (.istore_n 3, 1) := by decide +kernel
theorem dX3_cellsWithOne_2 : decode cX3_cellsWithOne 2 = .ok (.iconst 0, 1) := by decide +kernel
theorem dX3_cellsWithOne_3 : decode cX3_cellsWithOne 3 = .ok (.istore 4, 2) := by decide +kernel
theorem dX3_cellsWithOne_5 : decode cX3_cellsWithOne 5 = .ok (.iload 4, 2) := by decide +kernel
theorem dX3_cellsWithOne_7 : decode cX3_cellsWithOne 7 = .ok (.aload_n 0, 1) := by decide +kernel
theorem dX3_cellsWithOne_8 : decode cX3_cellsWithOne 8 = .ok (.getfield 18, 3) := by decide +kernel
theorem dX3_cellsWithOne_11 : decode cX3_cellsWithOne 11 = .ok (.iload_n 1, 1) := by decide +kernel
theorem dX3_cellsWithOne_12 : decode cX3_cellsWithOne 12 = .ok (.iaload, 1) := by decide +kernel
theorem dX3_cellsWithOne_13 : decode cX3_cellsWithOne 13 = .ok (.if_icmp .ge 33, 3) := by decide +kernel
theorem dX3_cellsWithOne_16 : decode cX3_cellsWithOne 16 = .ok (.aload_n 0, 1) := by decide +kernel
theorem dX3_cellsWithOne_17 : decode cX3_cellsWithOne 17 = .ok (.iload_n 1, 1) := by decide +kernel
theorem dX3_cellsWithOne_18 : decode cX3_cellsWithOne 18 = .ok (.iload 4, 2) := by decide +kernel
theorem dX3_cellsWithOne_20 : decode cX3_cellsWithOne 20 = .ok (.invokevirtual 37, 3) := by decide +kernel
theorem dX3_cellsWithOne_23 : decode cX3_cellsWithOne 23 = .ok (.istore 5, 2) := by decide +kernel
theorem dX3_cellsWithOne_25 : decode cX3_cellsWithOne 25 = .ok (.aload_n 2, 1) := by decide +kernel
theorem dX3_cellsWithOne_26 : decode cX3_cellsWithOne 26 = .ok (.iload 5, 2) := by decide +kernel
theorem dX3_cellsWithOne_28 : decode cX3_cellsWithOne 28 = .ok (.iaload, 1) := by decide +kernel
theorem dX3_cellsWithOne_29 : decode cX3_cellsWithOne 29 = .ok (.iconst 1, 1) := by decide +kernel
theorem dX3_cellsWithOne_30 : decode cX3_cellsWithOne 30 = .ok (.if_icmp .ne 10, 3) := by decide +kernel
theorem dX3_cellsWithOne_33 : decode cX3_cellsWithOne 33 = .ok (.iload_n 3, 1) := by decide +kernel
theorem dX3_cellsWithOne_34 : decode cX3_cellsWithOne 34 = .ok (.iconst 1, 1) := by decide +kernel
theorem dX3_cellsWithOne_35 : decode cX3_cellsWithOne 35 = .ok (.iload 5, 2) := by decide +kernel
theorem dX3_cellsWithOne_37 : decode cX3_cellsWithOne 37 = .ok (.ishl, 1) := by decide +kernel
theorem dX3_cellsWithOne_38 : decode cX3_cellsWithOne 38 = .ok (.ior, 1) := by decide +kernel
theorem dX3_cellsWithOne_39 : decode cX3_cellsWithOne 39 = .ok (.istore_n 3, 1) := by decide +kernel
theorem dX3_cellsWithOne_40 : decode cX3_cellsWithOne 40 = .ok (.iinc 4 1, 3) := by decide +kernel
theorem dX3_cellsWithOne_43 : decode cX3_cellsWithOne 43 = .ok (.goto (-38), 3) := by decide +kernel
theorem dX3_cellsWithOne_46 : decode cX3_cellsWithOne 46 = .ok (.iload_n 3, 1) := by decide +kernel
theorem dX3_cellsWithOne_47 : decode cX3_cellsWithOne 47 = .ok (.ireturn, 1) := by decide +kernel
set_option maxRecDepth 20000 in
theorem ggX3_canBeTried_X0_symbols : GoodIn wsX3_canBeTried wsX0_symbols := goodIn_r _ [7, 8, 16, 17, 18, 19, 20] (by decide +kernel) (by decide +kernel)
set_option maxRecDepth 20000 in
theorem gX3_canBeTried_X0_symbols : GoodIn wsX3_canBeTried (wsV RX3 62 RX0 yX0_symbols wsX0_symbols) := goodIn_app (goodIn_of _ (by decide +kernel)) ggX3_canBeTried_X0_symbols
theorem dX3_canBeTried_0 : decode cX3_canBeTried 0 = .ok (.iconst 1, 1) := by decide +kernel
theorem dX3_canBeTried_1 : decode cX3_canBeTried 1 = .ok (.istore_n 2, 1) := by decide +kernel
theorem dX3_canBeTried_2 : decode cX3_canBeTried 2 = .ok (.iconst 0, 1) := by decide +kernel
theorem dX3_canBeTried_3 : decode cX3_canBeTried 3 = .ok (.istore_n 3, 1) := by decide +kernel
theorem dX3_canBeTried_4 : decode cX3_canBeTried 4 = .ok (.iload_n 3, 1) := by decide +kernel
theorem dX3_canBeTried_5 : decode cX3_canBeTried 5 = .ok (.aload_n 0, 1) := by decide +kernel
theorem dX3_canBeTried_6 : decode cX3_canBeTried 6 = .ok (.getfield 18, 3) := by decide +kernel
theorem dX3_canBeTried_9 : decode cX3_canBeTried 9 = .ok (.iload_n 1, 1) := by decide +kernel
theorem dX3_canBeTried_10 : decode cX3_canBeTried 10 = .ok (.iaload, 1) := by decide +kernel
theorem dX3_canBeTried_11 : decode cX3_canBeTried 11 = .ok (.if_icmp .ge 19, 3) := by decide +kernel
theorem dX3_canBeTried_14 : decode cX3_canBeTried 14 = .ok (.iload_n 2, 1) := by decide +kernel
theorem dX3_canBeTried_15 : decode cX3_canBeTried 15 = .ok (.aload_n 0, 1) := by decide +kernel
theorem dX3_canBeTried_16 : decode cX3_canBeTried 16 = .ok (.getfield 33, 3) := by decide +kernel
theorem dX3_canBeTried_19 : decode cX3_canBeTried 19 = .ok (.invokevirtual 62, 3) := by decide +kernel
theorem dX3_canBeTried_22 : decode cX3_canBeTried 22 = .ok (.imul, 1) := by decide +kernel
theorem dX3_canBeTried_23 : decode cX3_canBeTried 23 = .ok (.istore_n 2, 1) := by decide +kernel
theorem dX3_canBeTried_24 : decode cX3_canBeTried 24 = .ok (.iinc 3 1, 3) := by decide +kernel
theorem dX3_canBeTried_27 : decode cX3_canBeTried 27 = .ok (.goto (-23), 3) := by decide +kernel
theorem dX3_canBeTried_30 : decode cX3_canBeTried 30 = .ok (.iload_n 2, 1) := by decide +kernel
theorem dX3_canBeTried_31 : decode cX3_canBeTried 31 = .ok (.sipush 4096, 3) := by decide +kernel
theorem dX3_canBeTried_34 : decode cX3_canBeTried 34 = .ok (.if_icmp .gt 7, 3) := by decide +kernel
theorem dX3_canBeTried_37 : decode cX3_canBeTried 37 = .ok (.iconst 1, 1) := by decide +kernel
theorem dX3_canBeTried_38 : decode cX3_canBeTried 38 = .ok (.goto 4, 3) := by decide +kernel
theorem dX3_canBeTried_41 : decode cX3_canBeTried 41 = .ok (.iconst 0, 1) := by decide +kernel
theorem dX3_canBeTried_42 : decode cX3_canBeTried 42 = .ok (.ireturn, 1) := by decide +kernel
set_option maxRecDepth 20000 in
theorem ggX3_canBeMet_X3_meets : GoodIn wsX3_canBeMet wsX3_meets := goodIn_r _ [8, 9, 10, 1, 3, 11, 12, 13, 7, 14, 15, 16, 17, 18, 19, 20, 21, 22, 23, 24, 25, 26, 27, 28, 29, 30, 31, 32, 33, 34, 35, 36, 37, 38, 39, 40, 41, 42, 43, 44, 45, 46, 47, 48, 63, 64, 65, 66, 67, 68, 69, 70, 71, 72, 73, 74] (by decide +kernel) (by decide +kernel)
set_option maxRecDepth 20000 in
theorem gX3_canBeMet_X3_meets : GoodIn wsX3_canBeMet (wsV RX3 66 RX3 yX3_meets wsX3_meets) := goodIn_app (goodIn_of _ (by decide +kernel)) ggX3_canBeMet_X3_meets
set_option maxRecDepth 20000 in
theorem ggX3_canBeMet_X3_cellAt : GoodIn wsX3_canBeMet wsX3_cellAt := goodIn_r _ [18, 19, 63, 64, 65, 66, 67, 68, 69] (by decide +kernel) (by decide +kernel)
set_option maxRecDepth 20000 in
theorem gX3_canBeMet_X3_cellAt : GoodIn wsX3_canBeMet (wsV RX3 37 RX3 yX3_cellAt wsX3_cellAt) := goodIn_app (goodIn_of _ (by decide +kernel)) ggX3_canBeMet_X3_cellAt
set_option maxRecDepth 20000 in
theorem ggX3_canBeMet_X4_symbolsOf : GoodIn wsX3_canBeMet wsX4_symbolsOf := goodIn_r _ [53, 54, 75, 76, 77, 78] (by decide +kernel) (by decide +kernel)
set_option maxRecDepth 20000 in
theorem gX3_canBeMet_X4_symbolsOf : GoodIn wsX3_canBeMet (wsV RX3 69 RX4 yX4_symbolsOf wsX4_symbolsOf) := goodIn_app (goodIn_of _ (by decide +kernel)) ggX3_canBeMet_X4_symbolsOf
set_option maxRecDepth 20000 in
theorem ggX3_canBeMet_X0_symbols : GoodIn wsX3_canBeMet wsX0_symbols := goodIn_r _ [58, 59, 70, 71, 72, 73, 74] (by decide +kernel) (by decide +kernel)
set_option maxRecDepth 20000 in
theorem gX3_canBeMet_X0_symbols : GoodIn wsX3_canBeMet (wsV RX3 62 RX0 yX0_symbols wsX0_symbols) := goodIn_app (goodIn_of _ (by decide +kernel)) ggX3_canBeMet_X0_symbols
set_option maxRecDepth 20000 in
theorem ggX3_canBeMet_X3_canBeMet : GoodIn wsX3_canBeMet wsX3_canBeMet := goodIn_r _ [0, 1, 2, 3, 4, 5, 6, 7, 8, 9, 10, 11, 12, 13, 14, 15, 16, 17, 18, 19, 20, 21, 22, 23, 24, 25, 26, 27, 28, 29, 30, 31, 32, 33, 34, 35, 36, 37, 38, 39, 40, 41, 42, 43, 44, 45, 46, 47, 48, 49, 50, 51, 52, 53, 54, 55, 56, 57, 58, 59, 60, 61, 62, 63, 64, 65, 66, 67, 68, 69, 70, 71, 72, 73, 74, 75, 76, 77, 78] (by decide +kernel) (by decide +kernel)
set_option maxRecDepth 20000 in
theorem gX3_canBeMet_X3_canBeMet : GoodIn wsX3_canBeMet (wsV RX3 75 RX3 yX3_canBeMet wsX3_canBeMet) := goodIn_app (goodIn_of _ (by decide +kernel)) ggX3_canBeMet_X3_canBeMet
theorem dX3_canBeMet_0 : decode cX3_canBeMet 0 = .ok (.iload_n 3, 1) := by decide +kernel
theorem dX3_canBeMet_1 : decode cX3_canBeMet 1 = .ok (.aload_n 0, 1) := by decide +kernel
theorem dX3_canBeMet_2 : decode cX3_canBeMet 2 = .ok (.getfield 18, 3) := by decide +kernel
theorem dX3_canBeMet_5 : decode cX3_canBeMet 5 = .ok (.iload_n 1, 1) := by decide +kernel
theorem dX3_canBeMet_6 : decode cX3_canBeMet 6 = .ok (.iaload, 1) := by decide +kernel
theorem dX3_canBeMet_7 : decode cX3_canBeMet 7 = .ok (.if_icmp .lt 13, 3) := by decide +kernel
theorem dX3_canBeMet_10 : decode cX3_canBeMet 10 = .ok (.aload_n 0, 1) := by decide +kernel
theorem dX3_canBeMet_11 : decode cX3_canBeMet 11 = .ok (.iload_n 1, 1) := by decide +kernel
theorem dX3_canBeMet_12 : decode cX3_canBeMet 12 = .ok (.aload_n 0, 1) := by decide +kernel
theorem dX3_canBeMet_13 : decode cX3_canBeMet 13 = .ok (.getfield 26, 3) := by decide +kernel
theorem dX3_canBeMet_16 : decode cX3_canBeMet 16 = .ok (.invokevirtual 66, 3) := by decide +kernel
theorem dX3_canBeMet_19 : decode cX3_canBeMet 19 = .ok (.ireturn, 1) := by decide +kernel
theorem dX3_canBeMet_20 : decode cX3_canBeMet 20 = .ok (.aload_n 0, 1) := by decide +kernel
theorem dX3_canBeMet_21 : decode cX3_canBeMet 21 = .ok (.iload_n 1, 1) := by decide +kernel
theorem dX3_canBeMet_22 : decode cX3_canBeMet 22 = .ok (.iload_n 3, 1) := by decide +kernel
theorem dX3_canBeMet_23 : decode cX3_canBeMet 23 = .ok (.invokevirtual 37, 3) := by decide +kernel
theorem dX3_canBeMet_26 : decode cX3_canBeMet 26 = .ok (.istore 4, 2) := by decide +kernel
theorem dX3_canBeMet_28 : decode cX3_canBeMet 28 = .ok (.aload_n 2, 1) := by decide +kernel
theorem dX3_canBeMet_29 : decode cX3_canBeMet 29 = .ok (.iload 4, 2) := by decide +kernel
theorem dX3_canBeMet_31 : decode cX3_canBeMet 31 = .ok (.invokevirtual 69, 3) := by decide +kernel
theorem dX3_canBeMet_34 : decode cX3_canBeMet 34 = .ok (.istore 5, 2) := by decide +kernel
theorem dX3_canBeMet_36 : decode cX3_canBeMet 36 = .ok (.iconst 0, 1) := by decide +kernel
theorem dX3_canBeMet_37 : decode cX3_canBeMet 37 = .ok (.istore 6, 2) := by decide +kernel
theorem dX3_canBeMet_39 : decode cX3_canBeMet 39 = .ok (.iload 6, 2) := by decide +kernel
theorem dX3_canBeMet_41 : decode cX3_canBeMet 41 = .ok (.aload_n 0, 1) := by decide +kernel
theorem dX3_canBeMet_42 : decode cX3_canBeMet 42 = .ok (.getfield 33, 3) := by decide +kernel
theorem dX3_canBeMet_45 : decode cX3_canBeMet 45 = .ok (.invokevirtual 62, 3) := by decide +kernel
theorem dX3_canBeMet_48 : decode cX3_canBeMet 48 = .ok (.if_icmp .ge 42, 3) := by decide +kernel
theorem dX3_canBeMet_51 : decode cX3_canBeMet 51 = .ok (.iload 5, 2) := by decide +kernel
theorem dX3_canBeMet_53 : decode cX3_canBeMet 53 = .ok (.iconst 1, 1) := by decide +kernel
theorem dX3_canBeMet_54 : decode cX3_canBeMet 54 = .ok (.iload 6, 2) := by decide +kernel
theorem dX3_canBeMet_56 : decode cX3_canBeMet 56 = .ok (.ishl, 1) := by decide +kernel
theorem dX3_canBeMet_57 : decode cX3_canBeMet 57 = .ok (.iand, 1) := by decide +kernel
theorem dX3_canBeMet_58 : decode cX3_canBeMet 58 = .ok (.ifCond .eq 26, 3) := by decide +kernel
theorem dX3_canBeMet_61 : decode cX3_canBeMet 61 = .ok (.aload_n 0, 1) := by decide +kernel
theorem dX3_canBeMet_62 : decode cX3_canBeMet 62 = .ok (.getfield 26, 3) := by decide +kernel
theorem dX3_canBeMet_65 : decode cX3_canBeMet 65 = .ok (.iload 4, 2) := by decide +kernel
theorem dX3_canBeMet_67 : decode cX3_canBeMet 67 = .ok (.iload 6, 2) := by decide +kernel
theorem dX3_canBeMet_69 : decode cX3_canBeMet 69 = .ok (.iastore, 1) := by decide +kernel
theorem dX3_canBeMet_70 : decode cX3_canBeMet 70 = .ok (.aload_n 0, 1) := by decide +kernel
theorem dX3_canBeMet_71 : decode cX3_canBeMet 71 = .ok (.iload_n 1, 1) := by decide +kernel
theorem dX3_canBeMet_72 : decode cX3_canBeMet 72 = .ok (.aload_n 2, 1) := by decide +kernel
theorem dX3_canBeMet_73 : decode cX3_canBeMet 73 = .ok (.iload_n 3, 1) := by decide +kernel
theorem dX3_canBeMet_74 : decode cX3_canBeMet 74 = .ok (.iconst 1, 1) := by decide +kernel
theorem dX3_canBeMet_75 : decode cX3_canBeMet 75 = .ok (.iadd, 1) := by decide +kernel
theorem dX3_canBeMet_76 : decode cX3_canBeMet 76 = .ok (.invokevirtual 75, 3) := by decide +kernel
theorem dX3_canBeMet_79 : decode cX3_canBeMet 79 = .ok (.ifCond .eq 5, 3) := by decide +kernel
theorem dX3_canBeMet_82 : decode cX3_canBeMet 82 = .ok (.iconst 1, 1) := by decide +kernel
theorem dX3_canBeMet_83 : decode cX3_canBeMet 83 = .ok (.ireturn, 1) := by decide +kernel
theorem dX3_canBeMet_84 : decode cX3_canBeMet 84 = .ok (.iinc 6 1, 3) := by decide +kernel
theorem dX3_canBeMet_87 : decode cX3_canBeMet 87 = .ok (.goto (-48), 3) := by decide +kernel
theorem dX3_canBeMet_90 : decode cX3_canBeMet 90 = .ok (.iconst 0, 1) := by decide +kernel
theorem dX3_canBeMet_91 : decode cX3_canBeMet 91 = .ok (.ireturn, 1) := by decide +kernel
