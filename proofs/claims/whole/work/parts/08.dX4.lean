theorem dX4_init_0 : decode cX4_init 0 = .ok (.aload_n 0, 1) := by decide +kernel
theorem dX4_init_1 : decode cX4_init 1 = .ok (.invokespecial 3, 3) := by decide +kernel
theorem dX4_init_4 : decode cX4_init 4 = .ok (.aload_n 0, 1) := by decide +kernel
theorem dX4_init_5 : decode cX4_init 5 = .ok (.bipush 16, 2) := by decide +kernel
theorem dX4_init_7 : decode cX4_init 7 = .ok (.newarray .int, 2) := by decide +kernel
theorem dX4_init_9 : decode cX4_init 9 = .ok (.putfield 11, 3) := by decide +kernel
theorem dX4_init_12 : decode cX4_init 12 = .ok (.aload_n 0, 1) := by decide +kernel
theorem dX4_init_13 : decode cX4_init 13 = .ok (.bipush 16, 2) := by decide +kernel
theorem dX4_init_15 : decode cX4_init 15 = .ok (.newarray .int, 2) := by decide +kernel
theorem dX4_init_17 : decode cX4_init 17 = .ok (.putfield 17, 3) := by decide +kernel
theorem dX4_init_20 : decode cX4_init 20 = .ok (.aload_n 0, 1) := by decide +kernel
theorem dX4_init_21 : decode cX4_init 21 = .ok (.aload_n 1, 1) := by decide +kernel
theorem dX4_init_22 : decode cX4_init 22 = .ok (.putfield 20, 3) := by decide +kernel
theorem dX4_init_25 : decode cX4_init 25 = .ok (.aload_n 0, 1) := by decide +kernel
theorem dX4_init_26 : decode cX4_init 26 = .ok (.aload_n 2, 1) := by decide +kernel
theorem dX4_init_27 : decode cX4_init 27 = .ok (.putfield 24, 3) := by decide +kernel
theorem dX4_init_30 : decode cX4_init 30 = .ok (.return_, 1) := by decide +kernel
theorem dX4_symbolsOf_0 : decode cX4_symbolsOf 0 = .ok (.aload_n 0, 1) := by decide +kernel
theorem dX4_symbolsOf_1 : decode cX4_symbolsOf 1 = .ok (.getfield 11, 3) := by decide +kernel
theorem dX4_symbolsOf_4 : decode cX4_symbolsOf 4 = .ok (.iload_n 1, 1) := by decide +kernel
theorem dX4_symbolsOf_5 : decode cX4_symbolsOf 5 = .ok (.iaload, 1) := by decide +kernel
theorem dX4_symbolsOf_6 : decode cX4_symbolsOf 6 = .ok (.ireturn, 1) := by decide +kernel
set_option maxRecDepth 20000 in
theorem ggX4_startWhole_X0_cells : GoodIn wsX4_startWhole wsX0_cells := goodIn_r _ [7, 8, 18, 19, 20, 21, 22] (by decide +kernel) (by decide +kernel)
set_option maxRecDepth 20000 in
theorem gX4_startWhole_X0_cells : GoodIn wsX4_startWhole (wsV RX4 28 RX0 yX0_cells wsX0_cells) := goodIn_app (goodIn_of _ (by decide +kernel)) ggX4_startWhole_X0_cells
set_option maxRecDepth 20000 in
theorem ggX4_startWhole_X0_allSymbols : GoodIn wsX4_startWhole wsX0_allSymbols := goodIn_r _ [12, 13, 18, 19, 20, 21, 22] (by decide +kernel) (by decide +kernel)
set_option maxRecDepth 20000 in
theorem gX4_startWhole_X0_allSymbols : GoodIn wsX4_startWhole (wsV RX4 32 RX0 yX0_allSymbols wsX0_allSymbols) := goodIn_app (goodIn_of _ (by decide +kernel)) ggX4_startWhole_X0_allSymbols
theorem dX4_startWhole_0 : decode cX4_startWhole 0 = .ok (.iconst 0, 1) := by decide +kernel
theorem dX4_startWhole_1 : decode cX4_startWhole 1 = .ok (.istore_n 1, 1) := by decide +kernel
theorem dX4_startWhole_2 : decode cX4_startWhole 2 = .ok (.iload_n 1, 1) := by decide +kernel
theorem dX4_startWhole_3 : decode cX4_startWhole 3 = .ok (.aload_n 0, 1) := by decide +kernel
theorem dX4_startWhole_4 : decode cX4_startWhole 4 = .ok (.getfield 20, 3) := by decide +kernel
theorem dX4_startWhole_7 : decode cX4_startWhole 7 = .ok (.invokevirtual 28, 3) := by decide +kernel
theorem dX4_startWhole_10 : decode cX4_startWhole 10 = .ok (.if_icmp .ge 22, 3) := by decide +kernel
theorem dX4_startWhole_13 : decode cX4_startWhole 13 = .ok (.aload_n 0, 1) := by decide +kernel
theorem dX4_startWhole_14 : decode cX4_startWhole 14 = .ok (.getfield 11, 3) := by decide +kernel
theorem dX4_startWhole_17 : decode cX4_startWhole 17 = .ok (.iload_n 1, 1) := by decide +kernel
theorem dX4_startWhole_18 : decode cX4_startWhole 18 = .ok (.aload_n 0, 1) := by decide +kernel
theorem dX4_startWhole_19 : decode cX4_startWhole 19 = .ok (.getfield 20, 3) := by decide +kernel
theorem dX4_startWhole_22 : decode cX4_startWhole 22 = .ok (.invokevirtual 32, 3) := by decide +kernel
theorem dX4_startWhole_25 : decode cX4_startWhole 25 = .ok (.iastore, 1) := by decide +kernel
theorem dX4_startWhole_26 : decode cX4_startWhole 26 = .ok (.iinc 1 1, 3) := by decide +kernel
theorem dX4_startWhole_29 : decode cX4_startWhole 29 = .ok (.goto (-27), 3) := by decide +kernel
theorem dX4_startWhole_32 : decode cX4_startWhole 32 = .ok (.return_, 1) := by decide +kernel
set_option maxRecDepth 20000 in
theorem ggX4_turnRound_X4_startWhole : GoodIn wsX4_turnRound wsX4_startWhole := goodIn_r _ [6, 7, 8, 9, 10, 11, 12, 13, 14, 15, 16, 17, 18, 19, 44, 45, 46, 47, 48, 49, 50, 51, 52] (by decide +kernel) (by decide +kernel)
set_option maxRecDepth 20000 in
theorem gX4_turnRound_X4_startWhole : GoodIn wsX4_turnRound (wsV RX4 35 RX4 yX4_startWhole wsX4_startWhole) := goodIn_app (goodIn_of _ (by decide +kernel)) ggX4_turnRound_X4_startWhole
set_option maxRecDepth 20000 in
theorem ggX4_turnRound_X1_sizeOf : GoodIn wsX4_turnRound wsX1_sizeOf := goodIn_r _ [24, 25, 53, 54, 55, 56, 57] (by decide +kernel) (by decide +kernel)
set_option maxRecDepth 20000 in
theorem gX4_turnRound_X1_sizeOf : GoodIn wsX4_turnRound (wsV RX4 38 RX1 yX1_sizeOf wsX1_sizeOf) := goodIn_app (goodIn_of _ (by decide +kernel)) ggX4_turnRound_X1_sizeOf
set_option maxRecDepth 20000 in
theorem ggX4_turnRound_X1_literalAt : GoodIn wsX4_turnRound wsX1_literalAt := goodIn_r _ [29, 30, 53, 54, 55, 56, 57] (by decide +kernel) (by decide +kernel)
set_option maxRecDepth 20000 in
theorem gX4_turnRound_X1_literalAt : GoodIn wsX4_turnRound (wsV RX4 44 RX1 yX1_literalAt wsX1_literalAt) := goodIn_app (goodIn_of _ (by decide +kernel)) ggX4_turnRound_X1_literalAt
set_option maxRecDepth 20000 in
theorem ggX4_turnRound_X1_saysIs : GoodIn wsX4_turnRound wsX1_saysIs := goodIn_r _ [33] (by decide +kernel) (by decide +kernel)
set_option maxRecDepth 20000 in
theorem gX4_turnRound_X1_saysIs : GoodIn wsX4_turnRound (va_wsS RX4 48 yX1_saysIs wsX1_saysIs) := goodIn_app (goodIn_of _ (by decide +kernel)) ggX4_turnRound_X1_saysIs
set_option maxRecDepth 20000 in
theorem ggX4_turnRound_X4_narrow : GoodIn wsX4_turnRound wsX4_narrow := goodIn_r _ [37, 8, 38, 39, 23, 40, 41, 42, 43, 44, 45, 46, 47] (by decide +kernel) (by decide +kernel)
set_option maxRecDepth 20000 in
theorem gX4_turnRound_X4_narrow : GoodIn wsX4_turnRound (wsV RX4 52 RX4 yX4_narrow wsX4_narrow) := goodIn_app (goodIn_of _ (by decide +kernel)) ggX4_turnRound_X4_narrow
theorem dX4_turnRound_0 : decode cX4_turnRound 0 = .ok (.aload_n 0, 1) := by decide +kernel
theorem dX4_turnRound_1 : decode cX4_turnRound 1 = .ok (.invokevirtual 35, 3) := by decide +kernel
theorem dX4_turnRound_4 : decode cX4_turnRound 4 = .ok (.iconst 0, 1) := by decide +kernel
theorem dX4_turnRound_5 : decode cX4_turnRound 5 = .ok (.istore_n 2, 1) := by decide +kernel
theorem dX4_turnRound_6 : decode cX4_turnRound 6 = .ok (.iload_n 2, 1) := by decide +kernel
theorem dX4_turnRound_7 : decode cX4_turnRound 7 = .ok (.aload_n 0, 1) := by decide +kernel
theorem dX4_turnRound_8 : decode cX4_turnRound 8 = .ok (.getfield 24, 3) := by decide +kernel
theorem dX4_turnRound_11 : decode cX4_turnRound 11 = .ok (.iload_n 1, 1) := by decide +kernel
theorem dX4_turnRound_12 : decode cX4_turnRound 12 = .ok (.invokevirtual 38, 3) := by decide +kernel
theorem dX4_turnRound_15 : decode cX4_turnRound 15 = .ok (.if_icmp .ge 36, 3) := by decide +kernel
theorem dX4_turnRound_18 : decode cX4_turnRound 18 = .ok (.aload_n 0, 1) := by decide +kernel
theorem dX4_turnRound_19 : decode cX4_turnRound 19 = .ok (.getfield 24, 3) := by decide +kernel
theorem dX4_turnRound_22 : decode cX4_turnRound 22 = .ok (.iload_n 1, 1) := by decide +kernel
theorem dX4_turnRound_23 : decode cX4_turnRound 23 = .ok (.iload_n 2, 1) := by decide +kernel
theorem dX4_turnRound_24 : decode cX4_turnRound 24 = .ok (.invokevirtual 44, 3) := by decide +kernel
theorem dX4_turnRound_27 : decode cX4_turnRound 27 = .ok (.istore_n 3, 1) := by decide +kernel
theorem dX4_turnRound_28 : decode cX4_turnRound 28 = .ok (.aload_n 0, 1) := by decide +kernel
theorem dX4_turnRound_29 : decode cX4_turnRound 29 = .ok (.iload_n 3, 1) := by decide +kernel
theorem dX4_turnRound_30 : decode cX4_turnRound 30 = .ok (.iload_n 3, 1) := by decide +kernel
theorem dX4_turnRound_31 : decode cX4_turnRound 31 = .ok (.invokestatic 48, 3) := by decide +kernel
theorem dX4_turnRound_34 : decode cX4_turnRound 34 = .ok (.ifCond .ne 7, 3) := by decide +kernel
theorem dX4_turnRound_37 : decode cX4_turnRound 37 = .ok (.iconst 1, 1) := by decide +kernel
theorem dX4_turnRound_38 : decode cX4_turnRound 38 = .ok (.goto 4, 3) := by decide +kernel
theorem dX4_turnRound_41 : decode cX4_turnRound 41 = .ok (.iconst 0, 1) := by decide +kernel
theorem dX4_turnRound_42 : decode cX4_turnRound 42 = .ok (.invokevirtual 52, 3) := by decide +kernel
theorem dX4_turnRound_45 : decode cX4_turnRound 45 = .ok (.iinc 2 1, 3) := by decide +kernel
theorem dX4_turnRound_48 : decode cX4_turnRound 48 = .ok (.goto (-42), 3) := by decide +kernel
theorem dX4_turnRound_51 : decode cX4_turnRound 51 = .ok (.return_, 1) := by decide +kernel
set_option maxRecDepth 20000 in
theorem ggX4_narrow_X1_cellOf : GoodIn wsX4_narrow wsX1_cellOf := goodIn_r _ [5] (by decide +kernel) (by decide +kernel)
set_option maxRecDepth 20000 in
theorem gX4_narrow_X1_cellOf : GoodIn wsX4_narrow (va_wsS RX4 56 yX1_cellOf wsX1_cellOf) := goodIn_app (goodIn_of _ (by decide +kernel)) ggX4_narrow_X1_cellOf
set_option maxRecDepth 20000 in
theorem ggX4_narrow_X1_symbolOf : GoodIn wsX4_narrow wsX1_symbolOf := goodIn_r _ [8] (by decide +kernel) (by decide +kernel)
set_option maxRecDepth 20000 in
theorem gX4_narrow_X1_symbolOf : GoodIn wsX4_narrow (va_wsS RX4 59 yX1_symbolOf wsX1_symbolOf) := goodIn_app (goodIn_of _ (by decide +kernel)) ggX4_narrow_X1_symbolOf
theorem dX4_narrow_0 : decode cX4_narrow 0 = .ok (.iload_n 1, 1) := by decide +kernel
theorem dX4_narrow_1 : decode cX4_narrow 1 = .ok (.invokestatic 56, 3) := by decide +kernel
theorem dX4_narrow_4 : decode cX4_narrow 4 = .ok (.istore_n 3, 1) := by decide +kernel
theorem dX4_narrow_5 : decode cX4_narrow 5 = .ok (.iconst 1, 1) := by decide +kernel
theorem dX4_narrow_6 : decode cX4_narrow 6 = .ok (.iload_n 1, 1) := by decide +kernel
theorem dX4_narrow_7 : decode cX4_narrow 7 = .ok (.invokestatic 59, 3) := by decide +kernel
theorem dX4_narrow_10 : decode cX4_narrow 10 = .ok (.ishl, 1) := by decide +kernel
theorem dX4_narrow_11 : decode cX4_narrow 11 = .ok (.istore 4, 2) := by decide +kernel
theorem dX4_narrow_13 : decode cX4_narrow 13 = .ok (.aload_n 0, 1) := by decide +kernel
theorem dX4_narrow_14 : decode cX4_narrow 14 = .ok (.getfield 11, 3) := by decide +kernel
theorem dX4_narrow_17 : decode cX4_narrow 17 = .ok (.iload_n 3, 1) := by decide +kernel
theorem dX4_narrow_18 : decode cX4_narrow 18 = .ok (.aload_n 0, 1) := by decide +kernel
theorem dX4_narrow_19 : decode cX4_narrow 19 = .ok (.getfield 11, 3) := by decide +kernel
theorem dX4_narrow_22 : decode cX4_narrow 22 = .ok (.iload_n 3, 1) := by decide +kernel
theorem dX4_narrow_23 : decode cX4_narrow 23 = .ok (.iaload, 1) := by decide +kernel
theorem dX4_narrow_24 : decode cX4_narrow 24 = .ok (.iload_n 2, 1) := by decide +kernel
theorem dX4_narrow_25 : decode cX4_narrow 25 = .ok (.ifCond .eq 8, 3) := by decide +kernel
theorem dX4_narrow_28 : decode cX4_narrow 28 = .ok (.iload 4, 2) := by decide +kernel
theorem dX4_narrow_30 : decode cX4_narrow 30 = .ok (.goto 7, 3) := by decide +kernel
theorem dX4_narrow_33 : decode cX4_narrow 33 = .ok (.iload 4, 2) := by decide +kernel
theorem dX4_narrow_35 : decode cX4_narrow 35 = .ok (.iconst (-1), 1) := by decide +kernel
theorem dX4_narrow_36 : decode cX4_narrow 36 = .ok (.ixor, 1) := by decide +kernel
theorem dX4_narrow_37 : decode cX4_narrow 37 = .ok (.iand, 1) := by decide +kernel
theorem dX4_narrow_38 : decode cX4_narrow 38 = .ok (.iastore, 1) := by decide +kernel
theorem dX4_narrow_39 : decode cX4_narrow 39 = .ok (.return_, 1) := by decide +kernel
set_option maxRecDepth 20000 in
theorem ggX4_refute_X4_turnRound : GoodIn wsX4_refute wsX4_turnRound := goodIn_r _ [5, 6, 7, 8, 9, 4, 10, 11, 12, 13, 14, 15, 16, 17, 18, 19, 20, 21, 22, 23, 24, 25, 26, 27, 28, 29, 30, 31, 32, 33, 34, 35, 36, 37, 38, 39, 40, 41, 42, 43, 44, 45, 46, 47, 68, 69, 70, 71, 72, 73, 74, 75, 76, 77, 78, 79, 80, 81] (by decide +kernel) (by decide +kernel)
set_option maxRecDepth 20000 in
theorem gX4_refute_X4_turnRound : GoodIn wsX4_refute (wsV RX4 62 RX4 yX4_turnRound wsX4_turnRound) := goodIn_app (goodIn_of _ (by decide +kernel)) ggX4_refute_X4_turnRound
set_option maxRecDepth 20000 in
theorem ggX4_refute_X4_comeToNothing : GoodIn wsX4_refute wsX4_comeToNothing := goodIn_r _ [51, 11, 52, 53, 54, 4, 55, 12, 13, 14, 15, 16, 17, 18, 56, 57, 58, 59, 23, 60, 61, 62, 63, 6, 24, 25, 26, 27, 28, 29, 30, 31, 32, 33, 34, 64, 65, 66, 67, 42, 43, 44, 45, 46, 47, 35, 36, 37, 38, 39, 40, 41, 68, 69, 70, 71, 72, 73, 74, 75, 76, 77, 78, 79, 80, 81] (by decide +kernel) (by decide +kernel)
set_option maxRecDepth 20000 in
theorem gX4_refute_X4_comeToNothing : GoodIn wsX4_refute (wsV RX4 66 RX4 yX4_comeToNothing wsX4_comeToNothing) := goodIn_app (goodIn_of _ (by decide +kernel)) ggX4_refute_X4_comeToNothing
theorem dX4_refute_0 : decode cX4_refute 0 = .ok (.aload_n 0, 1) := by decide +kernel
theorem dX4_refute_1 : decode cX4_refute 1 = .ok (.iload_n 1, 1) := by decide +kernel
theorem dX4_refute_2 : decode cX4_refute 2 = .ok (.invokevirtual 62, 3) := by decide +kernel
theorem dX4_refute_5 : decode cX4_refute 5 = .ok (.aload_n 0, 1) := by decide +kernel
theorem dX4_refute_6 : decode cX4_refute 6 = .ok (.iload_n 1, 1) := by decide +kernel
theorem dX4_refute_7 : decode cX4_refute 7 = .ok (.invokevirtual 66, 3) := by decide +kernel
theorem dX4_refute_10 : decode cX4_refute 10 = .ok (.ireturn, 1) := by decide +kernel
set_option maxRecDepth 20000 in
theorem ggX4_refuteBySplit_X4_refute : GoodIn wsX4_refuteBySplit wsX4_refute := goodIn_r _ [12, 13, 14, 15, 11, 16, 17, 18, 19, 20, 21, 7, 1, 22, 23, 24, 25, 26, 27, 28, 29, 30, 31, 32, 33, 34, 35, 36, 37, 38, 39, 40, 41, 42, 43, 44, 45, 46, 47, 48, 49, 50, 51, 52, 53, 54, 55, 56, 57, 58, 59, 60, 61, 62, 63, 64, 65, 66, 67, 68, 69, 70, 71, 72, 73, 74, 75, 76, 77, 78, 79, 80, 81, 82, 83, 84, 85, 86, 87, 88, 89, 90] (by decide +kernel) (by decide +kernel)
set_option maxRecDepth 20000 in
theorem gX4_refuteBySplit_X4_refute : GoodIn wsX4_refuteBySplit (wsV RX4 69 RX4 yX4_refute wsX4_refute) := goodIn_app (goodIn_of _ (by decide +kernel)) ggX4_refuteBySplit_X4_refute
set_option maxRecDepth 20000 in
theorem ggX4_refuteBySplit_X0_symbols : GoodIn wsX4_refuteBySplit wsX0_symbols := goodIn_r _ [68, 32, 81, 82, 83, 84, 85] (by decide +kernel) (by decide +kernel)
set_option maxRecDepth 20000 in
theorem gX4_refuteBySplit_X0_symbols : GoodIn wsX4_refuteBySplit (wsV RX4 78 RX0 yX0_symbols wsX0_symbols) := goodIn_app (goodIn_of _ (by decide +kernel)) ggX4_refuteBySplit_X0_symbols
set_option maxRecDepth 20000 in
theorem ggX4_refuteBySplit_X4_comeToNothing : GoodIn wsX4_refuteBySplit wsX4_comeToNothing := goodIn_r _ [60, 7, 61, 62, 63, 11, 64, 1, 22, 23, 24, 25, 26, 27, 65, 66, 67, 68, 32, 69, 70, 71, 72, 17, 33, 34, 35, 36, 37, 38, 39, 40, 41, 42, 43, 73, 74, 75, 76, 51, 52, 53, 54, 55, 56, 44, 45, 46, 47, 48, 49, 50, 77, 78, 79, 80, 81, 82, 83, 84, 85, 86, 87, 88, 89, 90] (by decide +kernel) (by decide +kernel)
set_option maxRecDepth 20000 in
theorem gX4_refuteBySplit_X4_comeToNothing : GoodIn wsX4_refuteBySplit (wsV RX4 66 RX4 yX4_comeToNothing wsX4_comeToNothing) := goodIn_app (goodIn_of _ (by decide +kernel)) ggX4_refuteBySplit_X4_comeToNothing
theorem dX4_refuteBySplit_0 : decode cX4_refuteBySplit 0 = .ok (.aload_n 0, 1) := by decide +kernel
theorem dX4_refuteBySplit_1 : decode cX4_refuteBySplit 1 = .ok (.iload_n 1, 1) := by decide +kernel
theorem dX4_refuteBySplit_2 : decode cX4_refuteBySplit 2 = .ok (.invokevirtual 69, 3) := by decide +kernel
theorem dX4_refuteBySplit_5 : decode cX4_refuteBySplit 5 = .ok (.ifCond .eq 5, 3) := by decide +kernel
theorem dX4_refuteBySplit_8 : decode cX4_refuteBySplit 8 = .ok (.iconst 1, 1) := by decide +kernel
theorem dX4_refuteBySplit_9 : decode cX4_refuteBySplit 9 = .ok (.ireturn, 1) := by decide +kernel
theorem dX4_refuteBySplit_10 : decode cX4_refuteBySplit 10 = .ok (.aload_n 0, 1) := by decide +kernel
theorem dX4_refuteBySplit_11 : decode cX4_refuteBySplit 11 = .ok (.getfield 11, 3) := by decide +kernel
theorem dX4_refuteBySplit_14 : decode cX4_refuteBySplit 14 = .ok (.iconst 0, 1) := by decide +kernel
theorem dX4_refuteBySplit_15 : decode cX4_refuteBySplit 15 = .ok (.aload_n 0, 1) := by decide +kernel
theorem dX4_refuteBySplit_16 : decode cX4_refuteBySplit 16 = .ok (.getfield 17, 3) := by decide +kernel
theorem dX4_refuteBySplit_19 : decode cX4_refuteBySplit 19 = .ok (.iconst 0, 1) := by decide +kernel
theorem dX4_refuteBySplit_20 : decode cX4_refuteBySplit 20 = .ok (.bipush 16, 2) := by decide +kernel
theorem dX4_refuteBySplit_22 : decode cX4_refuteBySplit 22 = .ok (.invokestatic 72, 3) := by decide +kernel
theorem dX4_refuteBySplit_25 : decode cX4_refuteBySplit 25 = .ok (.iconst 0, 1) := by decide +kernel
theorem dX4_refuteBySplit_26 : decode cX4_refuteBySplit 26 = .ok (.istore_n 3, 1) := by decide +kernel
theorem dX4_refuteBySplit_27 : decode cX4_refuteBySplit 27 = .ok (.iload_n 3, 1) := by decide +kernel
theorem dX4_refuteBySplit_28 : decode cX4_refuteBySplit 28 = .ok (.aload_n 0, 1) := by decide +kernel
theorem dX4_refuteBySplit_29 : decode cX4_refuteBySplit 29 = .ok (.getfield 20, 3) := by decide +kernel
theorem dX4_refuteBySplit_32 : decode cX4_refuteBySplit 32 = .ok (.invokevirtual 78, 3) := by decide +kernel
theorem dX4_refuteBySplit_35 : decode cX4_refuteBySplit 35 = .ok (.if_icmp .ge 59, 3) := by decide +kernel
theorem dX4_refuteBySplit_38 : decode cX4_refuteBySplit 38 = .ok (.iconst 1, 1) := by decide +kernel
theorem dX4_refuteBySplit_39 : decode cX4_refuteBySplit 39 = .ok (.iload_n 3, 1) := by decide +kernel
theorem dX4_refuteBySplit_40 : decode cX4_refuteBySplit 40 = .ok (.ishl, 1) := by decide +kernel
theorem dX4_refuteBySplit_41 : decode cX4_refuteBySplit 41 = .ok (.istore 4, 2) := by decide +kernel
theorem dX4_refuteBySplit_43 : decode cX4_refuteBySplit 43 = .ok (.aload_n 0, 1) := by decide +kernel
theorem dX4_refuteBySplit_44 : decode cX4_refuteBySplit 44 = .ok (.getfield 17, 3) := by decide +kernel
theorem dX4_refuteBySplit_47 : decode cX4_refuteBySplit 47 = .ok (.iload_n 2, 1) := by decide +kernel
theorem dX4_refuteBySplit_48 : decode cX4_refuteBySplit 48 = .ok (.iaload, 1) := by decide +kernel
theorem dX4_refuteBySplit_49 : decode cX4_refuteBySplit 49 = .ok (.iload 4, 2) := by decide +kernel
theorem dX4_refuteBySplit_51 : decode cX4_refuteBySplit 51 = .ok (.iand, 1) := by decide +kernel
theorem dX4_refuteBySplit_52 : decode cX4_refuteBySplit 52 = .ok (.ifCond .eq 36, 3) := by decide +kernel
theorem dX4_refuteBySplit_55 : decode cX4_refuteBySplit 55 = .ok (.aload_n 0, 1) := by decide +kernel
theorem dX4_refuteBySplit_56 : decode cX4_refuteBySplit 56 = .ok (.getfield 17, 3) := by decide +kernel
theorem dX4_refuteBySplit_59 : decode cX4_refuteBySplit 59 = .ok (.iconst 0, 1) := by decide +kernel
theorem dX4_refuteBySplit_60 : decode cX4_refuteBySplit 60 = .ok (.aload_n 0, 1) := by decide +kernel
theorem dX4_refuteBySplit_61 : decode cX4_refuteBySplit 61 = .ok (.getfield 11, 3) := by decide +kernel
theorem dX4_refuteBySplit_64 : decode cX4_refuteBySplit 64 = .ok (.iconst 0, 1) := by decide +kernel
theorem dX4_refuteBySplit_65 : decode cX4_refuteBySplit 65 = .ok (.bipush 16, 2) := by decide +kernel
theorem dX4_refuteBySplit_67 : decode cX4_refuteBySplit 67 = .ok (.invokestatic 72, 3) := by decide +kernel
theorem dX4_refuteBySplit_70 : decode cX4_refuteBySplit 70 = .ok (.aload_n 0, 1) := by decide +kernel
theorem dX4_refuteBySplit_71 : decode cX4_refuteBySplit 71 = .ok (.getfield 11, 3) := by decide +kernel
theorem dX4_refuteBySplit_74 : decode cX4_refuteBySplit 74 = .ok (.iload_n 2, 1) := by decide +kernel
theorem dX4_refuteBySplit_75 : decode cX4_refuteBySplit 75 = .ok (.iload 4, 2) := by decide +kernel
theorem dX4_refuteBySplit_77 : decode cX4_refuteBySplit 77 = .ok (.iastore, 1) := by decide +kernel
theorem dX4_refuteBySplit_78 : decode cX4_refuteBySplit 78 = .ok (.aload_n 0, 1) := by decide +kernel
theorem dX4_refuteBySplit_79 : decode cX4_refuteBySplit 79 = .ok (.iload_n 1, 1) := by decide +kernel
theorem dX4_refuteBySplit_80 : decode cX4_refuteBySplit 80 = .ok (.invokevirtual 66, 3) := by decide +kernel
theorem dX4_refuteBySplit_83 : decode cX4_refuteBySplit 83 = .ok (.ifCond .ne 5, 3) := by decide +kernel
theorem dX4_refuteBySplit_86 : decode cX4_refuteBySplit 86 = .ok (.iconst 0, 1) := by decide +kernel
theorem dX4_refuteBySplit_87 : decode cX4_refuteBySplit 87 = .ok (.ireturn, 1) := by decide +kernel
theorem dX4_refuteBySplit_88 : decode cX4_refuteBySplit 88 = .ok (.iinc 3 1, 3) := by decide +kernel
theorem dX4_refuteBySplit_91 : decode cX4_refuteBySplit 91 = .ok (.goto (-64), 3) := by decide +kernel
theorem dX4_refuteBySplit_94 : decode cX4_refuteBySplit 94 = .ok (.iconst 1, 1) := by decide +kernel
theorem dX4_refuteBySplit_95 : decode cX4_refuteBySplit 95 = .ok (.ireturn, 1) := by decide +kernel
set_option maxRecDepth 20000 in
theorem ggX4_comeToNothing_X4_someCellMayBeNothing : GoodIn wsX4_comeToNothing wsX4_someCellMayBeNothing := goodIn_r _ [6, 1, 7, 8, 9, 10, 11, 12, 13, 52, 53, 54, 55, 56, 57, 58, 59, 60] (by decide +kernel) (by decide +kernel)
set_option maxRecDepth 20000 in
theorem gX4_comeToNothing_X4_someCellMayBeNothing : GoodIn wsX4_comeToNothing (wsV RX4 80 RX4 yX4_someCellMayBeNothing wsX4_someCellMayBeNothing) := goodIn_app (goodIn_of _ (by decide +kernel)) ggX4_comeToNothing_X4_someCellMayBeNothing
set_option maxRecDepth 20000 in
theorem ggX4_comeToNothing_X0_cells : GoodIn wsX4_comeToNothing wsX0_cells := goodIn_r _ [12, 13, 56, 57, 58, 59, 60] (by decide +kernel) (by decide +kernel)
set_option maxRecDepth 20000 in
theorem gX4_comeToNothing_X0_cells : GoodIn wsX4_comeToNothing (wsV RX4 28 RX0 yX0_cells wsX0_cells) := goodIn_app (goodIn_of _ (by decide +kernel)) ggX4_comeToNothing_X0_cells
set_option maxRecDepth 20000 in
theorem ggX4_comeToNothing_X0_symbols : GoodIn wsX4_comeToNothing wsX0_symbols := goodIn_r _ [17, 18, 56, 57, 58, 59, 60] (by decide +kernel) (by decide +kernel)
set_option maxRecDepth 20000 in
theorem gX4_comeToNothing_X0_symbols : GoodIn wsX4_comeToNothing (wsV RX4 78 RX0 yX0_symbols wsX0_symbols) := goodIn_app (goodIn_of _ (by decide +kernel)) ggX4_comeToNothing_X0_symbols
set_option maxRecDepth 20000 in
theorem ggX4_comeToNothing_X4_stepBy : GoodIn wsX4_comeToNothing wsX4_stepBy := goodIn_r _ [22, 23, 24, 25, 26, 27, 28, 29, 30, 31, 32, 33, 34, 35, 36, 37, 5, 38, 7, 39, 40, 41, 42, 43, 44, 45, 46, 47, 48, 49, 50, 51, 52, 53, 54, 55, 61, 62, 63, 64, 65] (by decide +kernel) (by decide +kernel)
set_option maxRecDepth 20000 in
theorem gX4_comeToNothing_X4_stepBy : GoodIn wsX4_comeToNothing (wsV RX4 84 RX4 yX4_stepBy wsX4_stepBy) := goodIn_app (goodIn_of _ (by decide +kernel)) ggX4_comeToNothing_X4_stepBy
theorem dX4_comeToNothing_0 : decode cX4_comeToNothing 0 = .ok (.aload_n 0, 1) := by decide +kernel
theorem dX4_comeToNothing_1 : decode cX4_comeToNothing 1 = .ok (.invokevirtual 80, 3) := by decide +kernel
theorem dX4_comeToNothing_4 : decode cX4_comeToNothing 4 = .ok (.ifCond .eq 5, 3) := by decide +kernel
theorem dX4_comeToNothing_7 : decode cX4_comeToNothing 7 = .ok (.iconst 1, 1) := by decide +kernel
theorem dX4_comeToNothing_8 : decode cX4_comeToNothing 8 = .ok (.ireturn, 1) := by decide +kernel
theorem dX4_comeToNothing_9 : decode cX4_comeToNothing 9 = .ok (.aload_n 0, 1) := by decide +kernel
theorem dX4_comeToNothing_10 : decode cX4_comeToNothing 10 = .ok (.getfield 20, 3) := by decide +kernel
theorem dX4_comeToNothing_13 : decode cX4_comeToNothing 13 = .ok (.invokevirtual 28, 3) := by decide +kernel
theorem dX4_comeToNothing_16 : decode cX4_comeToNothing 16 = .ok (.aload_n 0, 1) := by decide +kernel
theorem dX4_comeToNothing_17 : decode cX4_comeToNothing 17 = .ok (.getfield 20, 3) := by decide +kernel
theorem dX4_comeToNothing_20 : decode cX4_comeToNothing 20 = .ok (.invokevirtual 78, 3) := by decide +kernel
theorem dX4_comeToNothing_23 : decode cX4_comeToNothing 23 = .ok (.imul, 1) := by decide +kernel
theorem dX4_comeToNothing_24 : decode cX4_comeToNothing 24 = .ok (.istore_n 2, 1) := by decide +kernel
theorem dX4_comeToNothing_25 : decode cX4_comeToNothing 25 = .ok (.iconst 0, 1) := by decide +kernel
theorem dX4_comeToNothing_26 : decode cX4_comeToNothing 26 = .ok (.istore_n 3, 1) := by decide +kernel
theorem dX4_comeToNothing_27 : decode cX4_comeToNothing 27 = .ok (.iconst 0, 1) := by decide +kernel
theorem dX4_comeToNothing_28 : decode cX4_comeToNothing 28 = .ok (.istore 4, 2) := by decide +kernel
theorem dX4_comeToNothing_30 : decode cX4_comeToNothing 30 = .ok (.iload 4, 2) := by decide +kernel
theorem dX4_comeToNothing_32 : decode cX4_comeToNothing 32 = .ok (.iload_n 2, 1) := by decide +kernel
theorem dX4_comeToNothing_33 : decode cX4_comeToNothing 33 = .ok (.iconst 1, 1) := by decide +kernel
theorem dX4_comeToNothing_34 : decode cX4_comeToNothing 34 = .ok (.iadd, 1) := by decide +kernel
theorem dX4_comeToNothing_35 : decode cX4_comeToNothing 35 = .ok (.iload_n 1, 1) := by decide +kernel
theorem dX4_comeToNothing_36 : decode cX4_comeToNothing 36 = .ok (.imul, 1) := by decide +kernel
theorem dX4_comeToNothing_37 : decode cX4_comeToNothing 37 = .ok (.if_icmp .ge 43, 3) := by decide +kernel
theorem dX4_comeToNothing_40 : decode cX4_comeToNothing 40 = .ok (.iload_n 3, 1) := by decide +kernel
theorem dX4_comeToNothing_41 : decode cX4_comeToNothing 41 = .ok (.iload_n 1, 1) := by decide +kernel
theorem dX4_comeToNothing_42 : decode cX4_comeToNothing 42 = .ok (.if_icmp .ge 38, 3) := by decide +kernel
theorem dX4_comeToNothing_45 : decode cX4_comeToNothing 45 = .ok (.aload_n 0, 1) := by decide +kernel
theorem dX4_comeToNothing_46 : decode cX4_comeToNothing 46 = .ok (.iload_n 3, 1) := by decide +kernel
theorem dX4_comeToNothing_47 : decode cX4_comeToNothing 47 = .ok (.invokevirtual 84, 3) := by decide +kernel
theorem dX4_comeToNothing_50 : decode cX4_comeToNothing 50 = .ok (.istore 5, 2) := by decide +kernel
theorem dX4_comeToNothing_52 : decode cX4_comeToNothing 52 = .ok (.iload 5, 2) := by decide +kernel
theorem dX4_comeToNothing_54 : decode cX4_comeToNothing 54 = .ok (.iconst 2, 1) := by decide +kernel
theorem dX4_comeToNothing_55 : decode cX4_comeToNothing 55 = .ok (.if_icmp .ne 5, 3) := by decide +kernel
theorem dX4_comeToNothing_58 : decode cX4_comeToNothing 58 = .ok (.iconst 1, 1) := by decide +kernel
theorem dX4_comeToNothing_59 : decode cX4_comeToNothing 59 = .ok (.ireturn, 1) := by decide +kernel
theorem dX4_comeToNothing_60 : decode cX4_comeToNothing 60 = .ok (.iload 5, 2) := by decide +kernel
theorem dX4_comeToNothing_62 : decode cX4_comeToNothing 62 = .ok (.iconst 1, 1) := by decide +kernel
theorem dX4_comeToNothing_63 : decode cX4_comeToNothing 63 = .ok (.if_icmp .ne 7, 3) := by decide +kernel
theorem dX4_comeToNothing_66 : decode cX4_comeToNothing 66 = .ok (.iconst 0, 1) := by decide +kernel
theorem dX4_comeToNothing_67 : decode cX4_comeToNothing 67 = .ok (.goto 6, 3) := by decide +kernel
theorem dX4_comeToNothing_70 : decode cX4_comeToNothing 70 = .ok (.iload_n 3, 1) := by decide +kernel
theorem dX4_comeToNothing_71 : decode cX4_comeToNothing 71 = .ok (.iconst 1, 1) := by decide +kernel
theorem dX4_comeToNothing_72 : decode cX4_comeToNothing 72 = .ok (.iadd, 1) := by decide +kernel
theorem dX4_comeToNothing_73 : decode cX4_comeToNothing 73 = .ok (.istore_n 3, 1) := by decide +kernel
theorem dX4_comeToNothing_74 : decode cX4_comeToNothing 74 = .ok (.iinc 4 1, 3) := by decide +kernel
theorem dX4_comeToNothing_77 : decode cX4_comeToNothing 77 = .ok (.goto (-47), 3) := by decide +kernel
theorem dX4_comeToNothing_80 : decode cX4_comeToNothing 80 = .ok (.iconst 0, 1) := by decide +kernel
theorem dX4_comeToNothing_81 : decode cX4_comeToNothing 81 = .ok (.ireturn, 1) := by decide +kernel
set_option maxRecDepth 20000 in
theorem ggX4_someCellMayBeNothing_X0_cells : GoodIn wsX4_someCellMayBeNothing wsX0_cells := goodIn_r _ [7, 8, 13, 14, 15, 16, 17] (by decide +kernel) (by decide +kernel)
set_option maxRecDepth 20000 in
theorem gX4_someCellMayBeNothing_X0_cells : GoodIn wsX4_someCellMayBeNothing (wsV RX4 28 RX0 yX0_cells wsX0_cells) := goodIn_app (goodIn_of _ (by decide +kernel)) ggX4_someCellMayBeNothing_X0_cells
theorem dX4_someCellMayBeNothing_0 : decode cX4_someCellMayBeNothing 0 = .ok (.iconst 0, 1) := by decide +kernel
theorem dX4_someCellMayBeNothing_1 : decode cX4_someCellMayBeNothing 1 = .ok (.istore_n 1, 1) := by decide +kernel
theorem dX4_someCellMayBeNothing_2 : decode cX4_someCellMayBeNothing 2 = .ok (.iload_n 1, 1) := by decide +kernel
theorem dX4_someCellMayBeNothing_3 : decode cX4_someCellMayBeNothing 3 = .ok (.aload_n 0, 1) := by decide +kernel
theorem dX4_someCellMayBeNothing_4 : decode cX4_someCellMayBeNothing 4 = .ok (.getfield 20, 3) := by decide +kernel
theorem dX4_someCellMayBeNothing_7 : decode cX4_someCellMayBeNothing 7 = .ok (.invokevirtual 28, 3) := by decide +kernel
theorem dX4_someCellMayBeNothing_10 : decode cX4_someCellMayBeNothing 10 = .ok (.if_icmp .ge 20, 3) := by decide +kernel
theorem dX4_someCellMayBeNothing_13 : decode cX4_someCellMayBeNothing 13 = .ok (.aload_n 0, 1) := by decide +kernel
theorem dX4_someCellMayBeNothing_14 : decode cX4_someCellMayBeNothing 14 = .ok (.getfield 11, 3) := by decide +kernel
theorem dX4_someCellMayBeNothing_17 : decode cX4_someCellMayBeNothing 17 = .ok (.iload_n 1, 1) := by decide +kernel
theorem dX4_someCellMayBeNothing_18 : decode cX4_someCellMayBeNothing 18 = .ok (.iaload, 1) := by decide +kernel
theorem dX4_someCellMayBeNothing_19 : decode cX4_someCellMayBeNothing 19 = .ok (.ifCond .ne 5, 3) := by decide +kernel
theorem dX4_someCellMayBeNothing_22 : decode cX4_someCellMayBeNothing 22 = .ok (.iconst 1, 1) := by decide +kernel
theorem dX4_someCellMayBeNothing_23 : decode cX4_someCellMayBeNothing 23 = .ok (.ireturn, 1) := by decide +kernel
theorem dX4_someCellMayBeNothing_24 : decode cX4_someCellMayBeNothing 24 = .ok (.iinc 1 1, 3) := by decide +kernel
theorem dX4_someCellMayBeNothing_27 : decode cX4_someCellMayBeNothing 27 = .ok (.goto (-25), 3) := by decide +kernel
theorem dX4_someCellMayBeNothing_30 : decode cX4_someCellMayBeNothing 30 = .ok (.iconst 0, 1) := by decide +kernel
theorem dX4_someCellMayBeNothing_31 : decode cX4_someCellMayBeNothing 31 = .ok (.ireturn, 1) := by decide +kernel
set_option maxRecDepth 20000 in
theorem ggX4_stepBy_X1_sizeOf : GoodIn wsX4_stepBy wsX1_sizeOf := goodIn_r _ [6, 7, 36, 37, 38, 39, 40] (by decide +kernel) (by decide +kernel)
set_option maxRecDepth 20000 in
theorem gX4_stepBy_X1_sizeOf : GoodIn wsX4_stepBy (wsV RX4 38 RX1 yX1_sizeOf wsX1_sizeOf) := goodIn_app (goodIn_of _ (by decide +kernel)) ggX4_stepBy_X1_sizeOf
set_option maxRecDepth 20000 in
theorem ggX4_stepBy_X1_literalAt : GoodIn wsX4_stepBy wsX1_literalAt := goodIn_r _ [11, 12, 36, 37, 38, 39, 40] (by decide +kernel) (by decide +kernel)
set_option maxRecDepth 20000 in
theorem gX4_stepBy_X1_literalAt : GoodIn wsX4_stepBy (wsV RX4 44 RX1 yX1_literalAt wsX1_literalAt) := goodIn_app (goodIn_of _ (by decide +kernel)) ggX4_stepBy_X1_literalAt
set_option maxRecDepth 20000 in
theorem ggX4_stepBy_X4_stateOf : GoodIn wsX4_stepBy wsX4_stateOf := goodIn_r _ [17, 18, 19, 20, 5, 21, 22, 23, 24, 25, 26, 27, 32, 33, 34, 35] (by decide +kernel) (by decide +kernel)
set_option maxRecDepth 20000 in
theorem gX4_stepBy_X4_stateOf : GoodIn wsX4_stepBy (wsV RX4 87 RX4 yX4_stateOf wsX4_stateOf) := goodIn_app (goodIn_of _ (by decide +kernel)) ggX4_stepBy_X4_stateOf
set_option maxRecDepth 20000 in
theorem ggX4_stepBy_X1_saysIs : GoodIn wsX4_stepBy wsX1_saysIs := goodIn_r _ [27] (by decide +kernel) (by decide +kernel)
set_option maxRecDepth 20000 in
theorem gX4_stepBy_X1_saysIs : GoodIn wsX4_stepBy (va_wsS RX4 48 yX1_saysIs wsX1_saysIs) := goodIn_app (goodIn_of _ (by decide +kernel)) ggX4_stepBy_X1_saysIs
set_option maxRecDepth 20000 in
theorem ggX4_stepBy_X4_narrow : GoodIn wsX4_stepBy wsX4_narrow := goodIn_r _ [31, 18, 19, 20, 5, 21, 22, 23, 24, 32, 33, 34, 35] (by decide +kernel) (by decide +kernel)
set_option maxRecDepth 20000 in
theorem gX4_stepBy_X4_narrow : GoodIn wsX4_stepBy (wsV RX4 52 RX4 yX4_narrow wsX4_narrow) := goodIn_app (goodIn_of _ (by decide +kernel)) ggX4_stepBy_X4_narrow
theorem dX4_stepBy_0 : decode cX4_stepBy 0 = .ok (.iconst (-1), 1) := by decide +kernel
theorem dX4_stepBy_1 : decode cX4_stepBy 1 = .ok (.istore_n 2, 1) := by decide +kernel
theorem dX4_stepBy_2 : decode cX4_stepBy 2 = .ok (.iconst 0, 1) := by decide +kernel
theorem dX4_stepBy_3 : decode cX4_stepBy 3 = .ok (.istore_n 3, 1) := by decide +kernel
theorem dX4_stepBy_4 : decode cX4_stepBy 4 = .ok (.iload_n 3, 1) := by decide +kernel
theorem dX4_stepBy_5 : decode cX4_stepBy 5 = .ok (.aload_n 0, 1) := by decide +kernel
theorem dX4_stepBy_6 : decode cX4_stepBy 6 = .ok (.getfield 24, 3) := by decide +kernel
theorem dX4_stepBy_9 : decode cX4_stepBy 9 = .ok (.iload_n 1, 1) := by decide +kernel
theorem dX4_stepBy_10 : decode cX4_stepBy 10 = .ok (.invokevirtual 38, 3) := by decide +kernel
theorem dX4_stepBy_13 : decode cX4_stepBy 13 = .ok (.if_icmp .ge 56, 3) := by decide +kernel
theorem dX4_stepBy_16 : decode cX4_stepBy 16 = .ok (.aload_n 0, 1) := by decide +kernel
theorem dX4_stepBy_17 : decode cX4_stepBy 17 = .ok (.getfield 24, 3) := by decide +kernel
theorem dX4_stepBy_20 : decode cX4_stepBy 20 = .ok (.iload_n 1, 1) := by decide +kernel
theorem dX4_stepBy_21 : decode cX4_stepBy 21 = .ok (.iload_n 3, 1) := by decide +kernel
theorem dX4_stepBy_22 : decode cX4_stepBy 22 = .ok (.invokevirtual 44, 3) := by decide +kernel
theorem dX4_stepBy_25 : decode cX4_stepBy 25 = .ok (.istore 4, 2) := by decide +kernel
theorem dX4_stepBy_27 : decode cX4_stepBy 27 = .ok (.aload_n 0, 1) := by decide +kernel
theorem dX4_stepBy_28 : decode cX4_stepBy 28 = .ok (.iload 4, 2) := by decide +kernel
theorem dX4_stepBy_30 : decode cX4_stepBy 30 = .ok (.invokevirtual 87, 3) := by decide +kernel
theorem dX4_stepBy_33 : decode cX4_stepBy 33 = .ok (.istore 5, 2) := by decide +kernel
theorem dX4_stepBy_35 : decode cX4_stepBy 35 = .ok (.iload 5, 2) := by decide +kernel
theorem dX4_stepBy_37 : decode cX4_stepBy 37 = .ok (.iconst 3, 1) := by decide +kernel
theorem dX4_stepBy_38 : decode cX4_stepBy 38 = .ok (.if_icmp .eq 14, 3) := by decide +kernel
theorem dX4_stepBy_41 : decode cX4_stepBy 41 = .ok (.iload 5, 2) := by decide +kernel
theorem dX4_stepBy_43 : decode cX4_stepBy 43 = .ok (.iconst 5, 1) := by decide +kernel
theorem dX4_stepBy_44 : decode cX4_stepBy 44 = .ok (.if_icmp .ne 10, 3) := by decide +kernel
theorem dX4_stepBy_47 : decode cX4_stepBy 47 = .ok (.iload_n 2, 1) := by decide +kernel
theorem dX4_stepBy_48 : decode cX4_stepBy 48 = .ok (.iconst (-1), 1) := by decide +kernel
theorem dX4_stepBy_49 : decode cX4_stepBy 49 = .ok (.if_icmp .eq 5, 3) := by decide +kernel
theorem dX4_stepBy_52 : decode cX4_stepBy 52 = .ok (.iconst 0, 1) := by decide +kernel
theorem dX4_stepBy_53 : decode cX4_stepBy 53 = .ok (.ireturn, 1) := by decide +kernel
theorem dX4_stepBy_54 : decode cX4_stepBy 54 = .ok (.iload 5, 2) := by decide +kernel
theorem dX4_stepBy_56 : decode cX4_stepBy 56 = .ok (.iconst 5, 1) := by decide +kernel
theorem dX4_stepBy_57 : decode cX4_stepBy 57 = .ok (.if_icmp .ne 6, 3) := by decide +kernel
theorem dX4_stepBy_60 : decode cX4_stepBy 60 = .ok (.iload 4, 2) := by decide +kernel
theorem dX4_stepBy_62 : decode cX4_stepBy 62 = .ok (.istore_n 2, 1) := by decide +kernel
theorem dX4_stepBy_63 : decode cX4_stepBy 63 = .ok (.iinc 3 1, 3) := by decide +kernel
theorem dX4_stepBy_66 : decode cX4_stepBy 66 = .ok (.goto (-62), 3) := by decide +kernel
theorem dX4_stepBy_69 : decode cX4_stepBy 69 = .ok (.iload_n 2, 1) := by decide +kernel
theorem dX4_stepBy_70 : decode cX4_stepBy 70 = .ok (.iconst (-1), 1) := by decide +kernel
theorem dX4_stepBy_71 : decode cX4_stepBy 71 = .ok (.if_icmp .ne 5, 3) := by decide +kernel
theorem dX4_stepBy_74 : decode cX4_stepBy 74 = .ok (.iconst 2, 1) := by decide +kernel
theorem dX4_stepBy_75 : decode cX4_stepBy 75 = .ok (.ireturn, 1) := by decide +kernel
theorem dX4_stepBy_76 : decode cX4_stepBy 76 = .ok (.aload_n 0, 1) := by decide +kernel
theorem dX4_stepBy_77 : decode cX4_stepBy 77 = .ok (.iload_n 2, 1) := by decide +kernel
theorem dX4_stepBy_78 : decode cX4_stepBy 78 = .ok (.iload_n 2, 1) := by decide +kernel
theorem dX4_stepBy_79 : decode cX4_stepBy 79 = .ok (.invokestatic 48, 3) := by decide +kernel
theorem dX4_stepBy_82 : decode cX4_stepBy 82 = .ok (.invokevirtual 52, 3) := by decide +kernel
theorem dX4_stepBy_85 : decode cX4_stepBy 85 = .ok (.iconst 1, 1) := by decide +kernel
theorem dX4_stepBy_86 : decode cX4_stepBy 86 = .ok (.ireturn, 1) := by decide +kernel
set_option maxRecDepth 20000 in
theorem ggX4_stateOf_X1_cellOf : GoodIn wsX4_stateOf wsX1_cellOf := goodIn_r _ [5] (by decide +kernel) (by decide +kernel)
set_option maxRecDepth 20000 in
theorem gX4_stateOf_X1_cellOf : GoodIn wsX4_stateOf (va_wsS RX4 56 yX1_cellOf wsX1_cellOf) := goodIn_app (goodIn_of _ (by decide +kernel)) ggX4_stateOf_X1_cellOf
set_option maxRecDepth 20000 in
theorem ggX4_stateOf_X1_symbolOf : GoodIn wsX4_stateOf wsX1_symbolOf := goodIn_r _ [8] (by decide +kernel) (by decide +kernel)
set_option maxRecDepth 20000 in
theorem gX4_stateOf_X1_symbolOf : GoodIn wsX4_stateOf (va_wsS RX4 59 yX1_symbolOf wsX1_symbolOf) := goodIn_app (goodIn_of _ (by decide +kernel)) ggX4_stateOf_X1_symbolOf
set_option maxRecDepth 20000 in
theorem ggX4_stateOf_X1_saysIs : GoodIn wsX4_stateOf wsX1_saysIs := goodIn_r _ [11] (by decide +kernel) (by decide +kernel)
set_option maxRecDepth 20000 in
theorem gX4_stateOf_X1_saysIs : GoodIn wsX4_stateOf (va_wsS RX4 48 yX1_saysIs wsX1_saysIs) := goodIn_app (goodIn_of _ (by decide +kernel)) ggX4_stateOf_X1_saysIs
theorem dX4_stateOf_0 : decode cX4_stateOf 0 = .ok (.aload_n 0, 1) := by decide +kernel
theorem dX4_stateOf_1 : decode cX4_stateOf 1 = .ok (.getfield 11, 3) := by decide +kernel
theorem dX4_stateOf_4 : decode cX4_stateOf 4 = .ok (.iload_n 1, 1) := by decide +kernel
theorem dX4_stateOf_5 : decode cX4_stateOf 5 = .ok (.invokestatic 56, 3) := by decide +kernel
theorem dX4_stateOf_8 : decode cX4_stateOf 8 = .ok (.iaload, 1) := by decide +kernel
theorem dX4_stateOf_9 : decode cX4_stateOf 9 = .ok (.istore_n 2, 1) := by decide +kernel
theorem dX4_stateOf_10 : decode cX4_stateOf 10 = .ok (.iconst 1, 1) := by decide +kernel
theorem dX4_stateOf_11 : decode cX4_stateOf 11 = .ok (.iload_n 1, 1) := by decide +kernel
theorem dX4_stateOf_12 : decode cX4_stateOf 12 = .ok (.invokestatic 59, 3) := by decide +kernel
theorem dX4_stateOf_15 : decode cX4_stateOf 15 = .ok (.ishl, 1) := by decide +kernel
theorem dX4_stateOf_16 : decode cX4_stateOf 16 = .ok (.istore_n 3, 1) := by decide +kernel
theorem dX4_stateOf_17 : decode cX4_stateOf 17 = .ok (.iload_n 2, 1) := by decide +kernel
theorem dX4_stateOf_18 : decode cX4_stateOf 18 = .ok (.iload_n 3, 1) := by decide +kernel
theorem dX4_stateOf_19 : decode cX4_stateOf 19 = .ok (.if_icmp .ne 16, 3) := by decide +kernel
theorem dX4_stateOf_22 : decode cX4_stateOf 22 = .ok (.iload_n 1, 1) := by decide +kernel
theorem dX4_stateOf_23 : decode cX4_stateOf 23 = .ok (.invokestatic 48, 3) := by decide +kernel
theorem dX4_stateOf_26 : decode cX4_stateOf 26 = .ok (.ifCond .eq 7, 3) := by decide +kernel
theorem dX4_stateOf_29 : decode cX4_stateOf 29 = .ok (.iconst 3, 1) := by decide +kernel
theorem dX4_stateOf_30 : decode cX4_stateOf 30 = .ok (.goto 4, 3) := by decide +kernel
theorem dX4_stateOf_33 : decode cX4_stateOf 33 = .ok (.iconst 4, 1) := by decide +kernel
theorem dX4_stateOf_34 : decode cX4_stateOf 34 = .ok (.ireturn, 1) := by decide +kernel
theorem dX4_stateOf_35 : decode cX4_stateOf 35 = .ok (.iload_n 2, 1) := by decide +kernel
theorem dX4_stateOf_36 : decode cX4_stateOf 36 = .ok (.iload_n 3, 1) := by decide +kernel
theorem dX4_stateOf_37 : decode cX4_stateOf 37 = .ok (.iand, 1) := by decide +kernel
theorem dX4_stateOf_38 : decode cX4_stateOf 38 = .ok (.ifCond .ne 16, 3) := by decide +kernel
theorem dX4_stateOf_41 : decode cX4_stateOf 41 = .ok (.iload_n 1, 1) := by decide +kernel
theorem dX4_stateOf_42 : decode cX4_stateOf 42 = .ok (.invokestatic 48, 3) := by decide +kernel
theorem dX4_stateOf_45 : decode cX4_stateOf 45 = .ok (.ifCond .eq 7, 3) := by decide +kernel
theorem dX4_stateOf_48 : decode cX4_stateOf 48 = .ok (.iconst 4, 1) := by decide +kernel
theorem dX4_stateOf_49 : decode cX4_stateOf 49 = .ok (.goto 4, 3) := by decide +kernel
theorem dX4_stateOf_52 : decode cX4_stateOf 52 = .ok (.iconst 3, 1) := by decide +kernel
theorem dX4_stateOf_53 : decode cX4_stateOf 53 = .ok (.ireturn, 1) := by decide +kernel
theorem dX4_stateOf_54 : decode cX4_stateOf 54 = .ok (.iconst 5, 1) := by decide +kernel
theorem dX4_stateOf_55 : decode cX4_stateOf 55 = .ok (.ireturn, 1) := by decide +kernel
