theorem dX1_init_0 : decode cX1_init 0 = .ok (.aload_n 0, 1) := by decide +kernel
theorem dX1_init_1 : decode cX1_init 1 = .ok (.invokespecial 1, 3) := by decide +kernel
theorem dX1_init_4 : decode cX1_init 4 = .ok (.aload_n 0, 1) := by decide +kernel
theorem dX1_init_5 : decode cX1_init 5 = .ok (.bipush 61, 2) := by decide +kernel
theorem dX1_init_7 : decode cX1_init 7 = .ok (.newarray .int, 2) := by decide +kernel
theorem dX1_init_9 : decode cX1_init 9 = .ok (.putfield 9, 3) := by decide +kernel
theorem dX1_init_12 : decode cX1_init 12 = .ok (.aload_n 0, 1) := by decide +kernel
theorem dX1_init_13 : decode cX1_init 13 = .ok (.bipush 61, 2) := by decide +kernel
theorem dX1_init_15 : decode cX1_init 15 = .ok (.newarray .int, 2) := by decide +kernel
theorem dX1_init_17 : decode cX1_init 17 = .ok (.putfield 13, 3) := by decide +kernel
theorem dX1_init_20 : decode cX1_init 20 = .ok (.aload_n 0, 1) := by decide +kernel
theorem dX1_init_21 : decode cX1_init 21 = .ok (.bipush 61, 2) := by decide +kernel
theorem dX1_init_23 : decode cX1_init 23 = .ok (.newarray .int, 2) := by decide +kernel
theorem dX1_init_25 : decode cX1_init 25 = .ok (.putfield 16, 3) := by decide +kernel
theorem dX1_init_28 : decode cX1_init 28 = .ok (.aload_n 0, 1) := by decide +kernel
theorem dX1_init_29 : decode cX1_init 29 = .ok (.sipush 976, 3) := by decide +kernel
theorem dX1_init_32 : decode cX1_init 32 = .ok (.newarray .int, 2) := by decide +kernel
theorem dX1_init_34 : decode cX1_init 34 = .ok (.putfield 19, 3) := by decide +kernel
theorem dX1_init_37 : decode cX1_init 37 = .ok (.aload_n 0, 1) := by decide +kernel
theorem dX1_init_38 : decode cX1_init 38 = .ok (.iconst 0, 1) := by decide +kernel
theorem dX1_init_39 : decode cX1_init 39 = .ok (.putfield 22, 3) := by decide +kernel
theorem dX1_init_42 : decode cX1_init 42 = .ok (.return_, 1) := by decide +kernel
theorem dX1_literalOf_0 : decode cX1_literalOf 0 = .ok (.iload_n 0, 1) := by decide +kernel
theorem dX1_literalOf_1 : decode cX1_literalOf 1 = .ok (.iconst 4, 1) := by decide +kernel
theorem dX1_literalOf_2 : decode cX1_literalOf 2 = .ok (.ishl, 1) := by decide +kernel
theorem dX1_literalOf_3 : decode cX1_literalOf 3 = .ok (.iload_n 1, 1) := by decide +kernel
theorem dX1_literalOf_4 : decode cX1_literalOf 4 = .ok (.iconst 1, 1) := by decide +kernel
theorem dX1_literalOf_5 : decode cX1_literalOf 5 = .ok (.ishl, 1) := by decide +kernel
theorem dX1_literalOf_6 : decode cX1_literalOf 6 = .ok (.ior, 1) := by decide +kernel
theorem dX1_literalOf_7 : decode cX1_literalOf 7 = .ok (.iload_n 2, 1) := by decide +kernel
theorem dX1_literalOf_8 : decode cX1_literalOf 8 = .ok (.ifCond .eq 7, 3) := by decide +kernel
theorem dX1_literalOf_11 : decode cX1_literalOf 11 = .ok (.iconst 1, 1) := by decide +kernel
theorem dX1_literalOf_12 : decode cX1_literalOf 12 = .ok (.goto 4, 3) := by decide +kernel
theorem dX1_literalOf_15 : decode cX1_literalOf 15 = .ok (.iconst 0, 1) := by decide +kernel
theorem dX1_literalOf_16 : decode cX1_literalOf 16 = .ok (.ior, 1) := by decide +kernel
theorem dX1_literalOf_17 : decode cX1_literalOf 17 = .ok (.ireturn, 1) := by decide +kernel
theorem dX1_cellOf_0 : decode cX1_cellOf 0 = .ok (.iload_n 0, 1) := by decide +kernel
theorem dX1_cellOf_1 : decode cX1_cellOf 1 = .ok (.iconst 4, 1) := by decide +kernel
theorem dX1_cellOf_2 : decode cX1_cellOf 2 = .ok (.ishr, 1) := by decide +kernel
theorem dX1_cellOf_3 : decode cX1_cellOf 3 = .ok (.ireturn, 1) := by decide +kernel
theorem dX1_symbolOf_0 : decode cX1_symbolOf 0 = .ok (.iload_n 0, 1) := by decide +kernel
theorem dX1_symbolOf_1 : decode cX1_symbolOf 1 = .ok (.iconst 1, 1) := by decide +kernel
theorem dX1_symbolOf_2 : decode cX1_symbolOf 2 = .ok (.ishr, 1) := by decide +kernel
theorem dX1_symbolOf_3 : decode cX1_symbolOf 3 = .ok (.bipush 7, 2) := by decide +kernel
theorem dX1_symbolOf_5 : decode cX1_symbolOf 5 = .ok (.iand, 1) := by decide +kernel
theorem dX1_symbolOf_6 : decode cX1_symbolOf 6 = .ok (.ireturn, 1) := by decide +kernel
theorem dX1_saysIs_0 : decode cX1_saysIs 0 = .ok (.iload_n 0, 1) := by decide +kernel
theorem dX1_saysIs_1 : decode cX1_saysIs 1 = .ok (.iconst 1, 1) := by decide +kernel
theorem dX1_saysIs_2 : decode cX1_saysIs 2 = .ok (.iand, 1) := by decide +kernel
theorem dX1_saysIs_3 : decode cX1_saysIs 3 = .ok (.iconst 1, 1) := by decide +kernel
theorem dX1_saysIs_4 : decode cX1_saysIs 4 = .ok (.if_icmp .ne 7, 3) := by decide +kernel
theorem dX1_saysIs_7 : decode cX1_saysIs 7 = .ok (.iconst 1, 1) := by decide +kernel
theorem dX1_saysIs_8 : decode cX1_saysIs 8 = .ok (.goto 4, 3) := by decide +kernel
theorem dX1_saysIs_11 : decode cX1_saysIs 11 = .ok (.iconst 0, 1) := by decide +kernel
theorem dX1_saysIs_12 : decode cX1_saysIs 12 = .ok (.ireturn, 1) := by decide +kernel
theorem dX1_count_0 : decode cX1_count 0 = .ok (.aload_n 0, 1) := by decide +kernel
theorem dX1_count_1 : decode cX1_count 1 = .ok (.getfield 22, 3) := by decide +kernel
theorem dX1_count_4 : decode cX1_count 4 = .ok (.ireturn, 1) := by decide +kernel
theorem dX1_isFull_0 : decode cX1_isFull 0 = .ok (.aload_n 0, 1) := by decide +kernel
theorem dX1_isFull_1 : decode cX1_isFull 1 = .ok (.getfield 22, 3) := by decide +kernel
theorem dX1_isFull_4 : decode cX1_isFull 4 = .ok (.bipush 60, 2) := by decide +kernel
theorem dX1_isFull_6 : decode cX1_isFull 6 = .ok (.if_icmp .lt 7, 3) := by decide +kernel
theorem dX1_isFull_9 : decode cX1_isFull 9 = .ok (.iconst 1, 1) := by decide +kernel
theorem dX1_isFull_10 : decode cX1_isFull 10 = .ok (.goto 4, 3) := by decide +kernel
theorem dX1_isFull_13 : decode cX1_isFull 13 = .ok (.iconst 0, 1) := by decide +kernel
theorem dX1_isFull_14 : decode cX1_isFull 14 = .ok (.ireturn, 1) := by decide +kernel
theorem dX1_kindOf_0 : decode cX1_kindOf 0 = .ok (.aload_n 0, 1) := by decide +kernel
theorem dX1_kindOf_1 : decode cX1_kindOf 1 = .ok (.getfield 9, 3) := by decide +kernel
theorem dX1_kindOf_4 : decode cX1_kindOf 4 = .ok (.iload_n 1, 1) := by decide +kernel
theorem dX1_kindOf_5 : decode cX1_kindOf 5 = .ok (.iaload, 1) := by decide +kernel
theorem dX1_kindOf_6 : decode cX1_kindOf 6 = .ok (.ireturn, 1) := by decide +kernel
theorem dX1_numberOf_0 : decode cX1_numberOf 0 = .ok (.aload_n 0, 1) := by decide +kernel
theorem dX1_numberOf_1 : decode cX1_numberOf 1 = .ok (.getfield 13, 3) := by decide +kernel
theorem dX1_numberOf_4 : decode cX1_numberOf 4 = .ok (.iload_n 1, 1) := by decide +kernel
theorem dX1_numberOf_5 : decode cX1_numberOf 5 = .ok (.iaload, 1) := by decide +kernel
theorem dX1_numberOf_6 : decode cX1_numberOf 6 = .ok (.ireturn, 1) := by decide +kernel
theorem dX1_sizeOf_0 : decode cX1_sizeOf 0 = .ok (.aload_n 0, 1) := by decide +kernel
theorem dX1_sizeOf_1 : decode cX1_sizeOf 1 = .ok (.getfield 16, 3) := by decide +kernel
theorem dX1_sizeOf_4 : decode cX1_sizeOf 4 = .ok (.iload_n 1, 1) := by decide +kernel
theorem dX1_sizeOf_5 : decode cX1_sizeOf 5 = .ok (.iaload, 1) := by decide +kernel
theorem dX1_sizeOf_6 : decode cX1_sizeOf 6 = .ok (.ireturn, 1) := by decide +kernel
theorem dX1_literalAt_0 : decode cX1_literalAt 0 = .ok (.aload_n 0, 1) := by decide +kernel
theorem dX1_literalAt_1 : decode cX1_literalAt 1 = .ok (.getfield 19, 3) := by decide +kernel
theorem dX1_literalAt_4 : decode cX1_literalAt 4 = .ok (.bipush 16, 2) := by decide +kernel
theorem dX1_literalAt_6 : decode cX1_literalAt 6 = .ok (.iload_n 1, 1) := by decide +kernel
theorem dX1_literalAt_7 : decode cX1_literalAt 7 = .ok (.imul, 1) := by decide +kernel
theorem dX1_literalAt_8 : decode cX1_literalAt 8 = .ok (.iload_n 2, 1) := by decide +kernel
theorem dX1_literalAt_9 : decode cX1_literalAt 9 = .ok (.iadd, 1) := by decide +kernel
theorem dX1_literalAt_10 : decode cX1_literalAt 10 = .ok (.iaload, 1) := by decide +kernel
theorem dX1_literalAt_11 : decode cX1_literalAt 11 = .ok (.ireturn, 1) := by decide +kernel
theorem dX1_startDraft_0 : decode cX1_startDraft 0 = .ok (.aload_n 0, 1) := by decide +kernel
theorem dX1_startDraft_1 : decode cX1_startDraft 1 = .ok (.getfield 9, 3) := by decide +kernel
theorem dX1_startDraft_4 : decode cX1_startDraft 4 = .ok (.aload_n 0, 1) := by decide +kernel
theorem dX1_startDraft_5 : decode cX1_startDraft 5 = .ok (.getfield 22, 3) := by decide +kernel
theorem dX1_startDraft_8 : decode cX1_startDraft 8 = .ok (.iload_n 1, 1) := by decide +kernel
theorem dX1_startDraft_9 : decode cX1_startDraft 9 = .ok (.iastore, 1) := by decide +kernel
theorem dX1_startDraft_10 : decode cX1_startDraft 10 = .ok (.aload_n 0, 1) := by decide +kernel
theorem dX1_startDraft_11 : decode cX1_startDraft 11 = .ok (.getfield 13, 3) := by decide +kernel
theorem dX1_startDraft_14 : decode cX1_startDraft 14 = .ok (.aload_n 0, 1) := by decide +kernel
theorem dX1_startDraft_15 : decode cX1_startDraft 15 = .ok (.getfield 22, 3) := by decide +kernel
theorem dX1_startDraft_18 : decode cX1_startDraft 18 = .ok (.iload_n 2, 1) := by decide +kernel
theorem dX1_startDraft_19 : decode cX1_startDraft 19 = .ok (.iastore, 1) := by decide +kernel
theorem dX1_startDraft_20 : decode cX1_startDraft 20 = .ok (.aload_n 0, 1) := by decide +kernel
theorem dX1_startDraft_21 : decode cX1_startDraft 21 = .ok (.getfield 16, 3) := by decide +kernel
theorem dX1_startDraft_24 : decode cX1_startDraft 24 = .ok (.aload_n 0, 1) := by decide +kernel
theorem dX1_startDraft_25 : decode cX1_startDraft 25 = .ok (.getfield 22, 3) := by decide +kernel
theorem dX1_startDraft_28 : decode cX1_startDraft 28 = .ok (.iconst 0, 1) := by decide +kernel
theorem dX1_startDraft_29 : decode cX1_startDraft 29 = .ok (.iastore, 1) := by decide +kernel
theorem dX1_startDraft_30 : decode cX1_startDraft 30 = .ok (.return_, 1) := by decide +kernel
set_option maxRecDepth 20000 in
theorem ggX1_keepDraft_X1_isFull : GoodIn wsX1_keepDraft wsX1_isFull := goodIn_r _ [6, 1, 7, 8, 9, 10, 11] (by decide +kernel) (by decide +kernel)
set_option maxRecDepth 20000 in
theorem gX1_keepDraft_X1_isFull : GoodIn wsX1_keepDraft (wsV RX1 26 RX1 yX1_isFull wsX1_isFull) := goodIn_app (goodIn_of _ (by decide +kernel)) ggX1_keepDraft_X1_isFull
theorem dX1_keepDraft_0 : decode cX1_keepDraft 0 = .ok (.aload_n 0, 1) := by decide +kernel
theorem dX1_keepDraft_1 : decode cX1_keepDraft 1 = .ok (.invokevirtual 26, 3) := by decide +kernel
theorem dX1_keepDraft_4 : decode cX1_keepDraft 4 = .ok (.ifCond .eq 5, 3) := by decide +kernel
theorem dX1_keepDraft_7 : decode cX1_keepDraft 7 = .ok (.iconst 0, 1) := by decide +kernel
theorem dX1_keepDraft_8 : decode cX1_keepDraft 8 = .ok (.ireturn, 1) := by decide +kernel
theorem dX1_keepDraft_9 : decode cX1_keepDraft 9 = .ok (.aload_n 0, 1) := by decide +kernel
theorem dX1_keepDraft_10 : decode cX1_keepDraft 10 = .ok (.dup, 1) := by decide +kernel
theorem dX1_keepDraft_11 : decode cX1_keepDraft 11 = .ok (.getfield 22, 3) := by decide +kernel
theorem dX1_keepDraft_14 : decode cX1_keepDraft 14 = .ok (.iconst 1, 1) := by decide +kernel
theorem dX1_keepDraft_15 : decode cX1_keepDraft 15 = .ok (.iadd, 1) := by decide +kernel
theorem dX1_keepDraft_16 : decode cX1_keepDraft 16 = .ok (.putfield 22, 3) := by decide +kernel
theorem dX1_keepDraft_19 : decode cX1_keepDraft 19 = .ok (.iconst 1, 1) := by decide +kernel
theorem dX1_keepDraft_20 : decode cX1_keepDraft 20 = .ok (.ireturn, 1) := by decide +kernel
theorem dX1_cutTo_0 : decode cX1_cutTo 0 = .ok (.aload_n 0, 1) := by decide +kernel
theorem dX1_cutTo_1 : decode cX1_cutTo 1 = .ok (.iload_n 1, 1) := by decide +kernel
theorem dX1_cutTo_2 : decode cX1_cutTo 2 = .ok (.putfield 22, 3) := by decide +kernel
theorem dX1_cutTo_5 : decode cX1_cutTo 5 = .ok (.return_, 1) := by decide +kernel
theorem dX1_isFullOfLiterals_0 : decode cX1_isFullOfLiterals 0 = .ok (.aload_n 0, 1) := by decide +kernel
theorem dX1_isFullOfLiterals_1 : decode cX1_isFullOfLiterals 1 = .ok (.getfield 16, 3) := by decide +kernel
theorem dX1_isFullOfLiterals_4 : decode cX1_isFullOfLiterals 4 = .ok (.iload_n 1, 1) := by decide +kernel
theorem dX1_isFullOfLiterals_5 : decode cX1_isFullOfLiterals 5 = .ok (.iaload, 1) := by decide +kernel
theorem dX1_isFullOfLiterals_6 : decode cX1_isFullOfLiterals 6 = .ok (.bipush 16, 2) := by decide +kernel
theorem dX1_isFullOfLiterals_8 : decode cX1_isFullOfLiterals 8 = .ok (.if_icmp .lt 7, 3) := by decide +kernel
theorem dX1_isFullOfLiterals_11 : decode cX1_isFullOfLiterals 11 = .ok (.iconst 1, 1) := by decide +kernel
theorem dX1_isFullOfLiterals_12 : decode cX1_isFullOfLiterals 12 = .ok (.goto 4, 3) := by decide +kernel
theorem dX1_isFullOfLiterals_15 : decode cX1_isFullOfLiterals 15 = .ok (.iconst 0, 1) := by decide +kernel
theorem dX1_isFullOfLiterals_16 : decode cX1_isFullOfLiterals 16 = .ok (.ireturn, 1) := by decide +kernel
set_option maxRecDepth 20000 in
theorem ggX1_addLiteral_X1_isFullOfLiterals : GoodIn wsX1_addLiteral wsX1_isFullOfLiterals := goodIn_r _ [7, 1, 12, 13, 14, 15, 16] (by decide +kernel) (by decide +kernel)
set_option maxRecDepth 20000 in
theorem gX1_addLiteral_X1_isFullOfLiterals : GoodIn wsX1_addLiteral (wsV RX1 30 RX1 yX1_isFullOfLiterals wsX1_isFullOfLiterals) := goodIn_app (goodIn_of _ (by decide +kernel)) ggX1_addLiteral_X1_isFullOfLiterals
set_option maxRecDepth 20000 in
theorem ggX1_addLiteral_X1_literalAt : GoodIn wsX1_addLiteral wsX1_literalAt := goodIn_r _ [11, 2, 12, 13, 14, 15, 16] (by decide +kernel) (by decide +kernel)
set_option maxRecDepth 20000 in
theorem gX1_addLiteral_X1_literalAt : GoodIn wsX1_addLiteral (wsV RX1 34 RX1 yX1_literalAt wsX1_literalAt) := goodIn_app (goodIn_of _ (by decide +kernel)) ggX1_addLiteral_X1_literalAt
theorem dX1_addLiteral_0 : decode cX1_addLiteral 0 = .ok (.aload_n 0, 1) := by decide +kernel
theorem dX1_addLiteral_1 : decode cX1_addLiteral 1 = .ok (.iload_n 1, 1) := by decide +kernel
theorem dX1_addLiteral_2 : decode cX1_addLiteral 2 = .ok (.invokevirtual 30, 3) := by decide +kernel
theorem dX1_addLiteral_5 : decode cX1_addLiteral 5 = .ok (.ifCond .eq 5, 3) := by decide +kernel
theorem dX1_addLiteral_8 : decode cX1_addLiteral 8 = .ok (.iconst 0, 1) := by decide +kernel
theorem dX1_addLiteral_9 : decode cX1_addLiteral 9 = .ok (.ireturn, 1) := by decide +kernel
theorem dX1_addLiteral_10 : decode cX1_addLiteral 10 = .ok (.aload_n 0, 1) := by decide +kernel
theorem dX1_addLiteral_11 : decode cX1_addLiteral 11 = .ok (.getfield 16, 3) := by decide +kernel
theorem dX1_addLiteral_14 : decode cX1_addLiteral 14 = .ok (.iload_n 1, 1) := by decide +kernel
theorem dX1_addLiteral_15 : decode cX1_addLiteral 15 = .ok (.iaload, 1) := by decide +kernel
theorem dX1_addLiteral_16 : decode cX1_addLiteral 16 = .ok (.istore_n 3, 1) := by decide +kernel
theorem dX1_addLiteral_17 : decode cX1_addLiteral 17 = .ok (.iconst 0, 1) := by decide +kernel
theorem dX1_addLiteral_18 : decode cX1_addLiteral 18 = .ok (.istore 4, 2) := by decide +kernel
theorem dX1_addLiteral_20 : decode cX1_addLiteral 20 = .ok (.iload 4, 2) := by decide +kernel
theorem dX1_addLiteral_22 : decode cX1_addLiteral 22 = .ok (.iload_n 3, 1) := by decide +kernel
theorem dX1_addLiteral_23 : decode cX1_addLiteral 23 = .ok (.if_icmp .ge 22, 3) := by decide +kernel
theorem dX1_addLiteral_26 : decode cX1_addLiteral 26 = .ok (.aload_n 0, 1) := by decide +kernel
theorem dX1_addLiteral_27 : decode cX1_addLiteral 27 = .ok (.iload_n 1, 1) := by decide +kernel
theorem dX1_addLiteral_28 : decode cX1_addLiteral 28 = .ok (.iload 4, 2) := by decide +kernel
theorem dX1_addLiteral_30 : decode cX1_addLiteral 30 = .ok (.invokevirtual 34, 3) := by decide +kernel
theorem dX1_addLiteral_33 : decode cX1_addLiteral 33 = .ok (.iload_n 2, 1) := by decide +kernel
theorem dX1_addLiteral_34 : decode cX1_addLiteral 34 = .ok (.if_icmp .ne 5, 3) := by decide +kernel
theorem dX1_addLiteral_37 : decode cX1_addLiteral 37 = .ok (.iconst 0, 1) := by decide +kernel
theorem dX1_addLiteral_38 : decode cX1_addLiteral 38 = .ok (.ireturn, 1) := by decide +kernel
theorem dX1_addLiteral_39 : decode cX1_addLiteral 39 = .ok (.iinc 4 1, 3) := by decide +kernel
theorem dX1_addLiteral_42 : decode cX1_addLiteral 42 = .ok (.goto (-22), 3) := by decide +kernel
theorem dX1_addLiteral_45 : decode cX1_addLiteral 45 = .ok (.aload_n 0, 1) := by decide +kernel
theorem dX1_addLiteral_46 : decode cX1_addLiteral 46 = .ok (.getfield 19, 3) := by decide +kernel
theorem dX1_addLiteral_49 : decode cX1_addLiteral 49 = .ok (.bipush 16, 2) := by decide +kernel
theorem dX1_addLiteral_51 : decode cX1_addLiteral 51 = .ok (.iload_n 1, 1) := by decide +kernel
theorem dX1_addLiteral_52 : decode cX1_addLiteral 52 = .ok (.imul, 1) := by decide +kernel
theorem dX1_addLiteral_53 : decode cX1_addLiteral 53 = .ok (.iload_n 3, 1) := by decide +kernel
theorem dX1_addLiteral_54 : decode cX1_addLiteral 54 = .ok (.iadd, 1) := by decide +kernel
theorem dX1_addLiteral_55 : decode cX1_addLiteral 55 = .ok (.iload_n 2, 1) := by decide +kernel
theorem dX1_addLiteral_56 : decode cX1_addLiteral 56 = .ok (.iastore, 1) := by decide +kernel
theorem dX1_addLiteral_57 : decode cX1_addLiteral 57 = .ok (.aload_n 0, 1) := by decide +kernel
theorem dX1_addLiteral_58 : decode cX1_addLiteral 58 = .ok (.getfield 16, 3) := by decide +kernel
theorem dX1_addLiteral_61 : decode cX1_addLiteral 61 = .ok (.iload_n 1, 1) := by decide +kernel
theorem dX1_addLiteral_62 : decode cX1_addLiteral 62 = .ok (.iload_n 3, 1) := by decide +kernel
theorem dX1_addLiteral_63 : decode cX1_addLiteral 63 = .ok (.iconst 1, 1) := by decide +kernel
theorem dX1_addLiteral_64 : decode cX1_addLiteral 64 = .ok (.iadd, 1) := by decide +kernel
theorem dX1_addLiteral_65 : decode cX1_addLiteral 65 = .ok (.iastore, 1) := by decide +kernel
theorem dX1_addLiteral_66 : decode cX1_addLiteral 66 = .ok (.iconst 1, 1) := by decide +kernel
theorem dX1_addLiteral_67 : decode cX1_addLiteral 67 = .ok (.ireturn, 1) := by decide +kernel
