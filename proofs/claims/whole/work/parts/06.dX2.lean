theorem dX2_init_0 : decode cX2_init 0 = .ok (.aload_n 0, 1) := by decide +kernel
theorem dX2_init_1 : decode cX2_init 1 = .ok (.invokespecial 3, 3) := by decide +kernel
theorem dX2_init_4 : decode cX2_init 4 = .ok (.aload_n 0, 1) := by decide +kernel
theorem dX2_init_5 : decode cX2_init 5 = .ok (.sipush 300, 3) := by decide +kernel
theorem dX2_init_8 : decode cX2_init 8 = .ok (.newarray .int, 2) := by decide +kernel
theorem dX2_init_10 : decode cX2_init 10 = .ok (.putfield 11, 3) := by decide +kernel
theorem dX2_init_13 : decode cX2_init 13 = .ok (.aload_n 0, 1) := by decide +kernel
theorem dX2_init_14 : decode cX2_init 14 = .ok (.iconst 0, 1) := by decide +kernel
theorem dX2_init_15 : decode cX2_init 15 = .ok (.putfield 15, 3) := by decide +kernel
theorem dX2_init_18 : decode cX2_init 18 = .ok (.aload_n 0, 1) := by decide +kernel
theorem dX2_init_19 : decode cX2_init 19 = .ok (.iconst 0, 1) := by decide +kernel
theorem dX2_init_20 : decode cX2_init 20 = .ok (.putfield 19, 3) := by decide +kernel
theorem dX2_init_23 : decode cX2_init 23 = .ok (.aload_n 0, 1) := by decide +kernel
theorem dX2_init_24 : decode cX2_init 24 = .ok (.aload_n 1, 1) := by decide +kernel
theorem dX2_init_25 : decode cX2_init 25 = .ok (.putfield 22, 3) := by decide +kernel
theorem dX2_init_28 : decode cX2_init 28 = .ok (.aload_n 0, 1) := by decide +kernel
theorem dX2_init_29 : decode cX2_init 29 = .ok (.aload_n 2, 1) := by decide +kernel
theorem dX2_init_30 : decode cX2_init 30 = .ok (.putfield 26, 3) := by decide +kernel
theorem dX2_init_33 : decode cX2_init 33 = .ok (.return_, 1) := by decide +kernel
theorem dX2_append_0 : decode cX2_append 0 = .ok (.iload_n 1, 1) := by decide +kernel
theorem dX2_append_1 : decode cX2_append 1 = .ok (.ifCond .lt 20, 3) := by decide +kernel
theorem dX2_append_4 : decode cX2_append 4 = .ok (.iload_n 1, 1) := by decide +kernel
theorem dX2_append_5 : decode cX2_append 5 = .ok (.sipush 255, 3) := by decide +kernel
theorem dX2_append_8 : decode cX2_append 8 = .ok (.if_icmp .gt 13, 3) := by decide +kernel
theorem dX2_append_11 : decode cX2_append 11 = .ok (.aload_n 0, 1) := by decide +kernel
theorem dX2_append_12 : decode cX2_append 12 = .ok (.getfield 15, 3) := by decide +kernel
theorem dX2_append_15 : decode cX2_append 15 = .ok (.sipush 300, 3) := by decide +kernel
theorem dX2_append_18 : decode cX2_append 18 = .ok (.if_icmp .lt 5, 3) := by decide +kernel
theorem dX2_append_21 : decode cX2_append 21 = .ok (.iconst 0, 1) := by decide +kernel
theorem dX2_append_22 : decode cX2_append 22 = .ok (.ireturn, 1) := by decide +kernel
theorem dX2_append_23 : decode cX2_append 23 = .ok (.aload_n 0, 1) := by decide +kernel
theorem dX2_append_24 : decode cX2_append 24 = .ok (.getfield 11, 3) := by decide +kernel
theorem dX2_append_27 : decode cX2_append 27 = .ok (.aload_n 0, 1) := by decide +kernel
theorem dX2_append_28 : decode cX2_append 28 = .ok (.getfield 15, 3) := by decide +kernel
theorem dX2_append_31 : decode cX2_append 31 = .ok (.iload_n 1, 1) := by decide +kernel
theorem dX2_append_32 : decode cX2_append 32 = .ok (.iastore, 1) := by decide +kernel
theorem dX2_append_33 : decode cX2_append 33 = .ok (.aload_n 0, 1) := by decide +kernel
theorem dX2_append_34 : decode cX2_append 34 = .ok (.dup, 1) := by decide +kernel
theorem dX2_append_35 : decode cX2_append 35 = .ok (.getfield 15, 3) := by decide +kernel
theorem dX2_append_38 : decode cX2_append 38 = .ok (.iconst 1, 1) := by decide +kernel
theorem dX2_append_39 : decode cX2_append 39 = .ok (.iadd, 1) := by decide +kernel
theorem dX2_append_40 : decode cX2_append 40 = .ok (.putfield 15, 3) := by decide +kernel
theorem dX2_append_43 : decode cX2_append 43 = .ok (.iconst 1, 1) := by decide +kernel
theorem dX2_append_44 : decode cX2_append 44 = .ok (.ireturn, 1) := by decide +kernel
set_option maxRecDepth 20000 in
theorem ggX2_readAll_X1_count : GoodIn wsX2_readAll wsX1_count := goodIn_r _ [8, 9, 93, 94, 95, 96, 97] (by decide +kernel) (by decide +kernel)
set_option maxRecDepth 20000 in
theorem gX2_readAll_X1_count : GoodIn wsX2_readAll (wsV RX2 30 RX1 yX1_count wsX1_count) := goodIn_app (goodIn_of _ (by decide +kernel)) ggX2_readAll_X1_count
set_option maxRecDepth 20000 in
theorem ggX2_readAll_X2_readLine : GoodIn wsX2_readAll wsX2_readLine := goodIn_r _ [14, 1, 2, 15, 16, 17, 13, 18, 19, 20, 21, 22, 3, 23, 24, 25, 26, 7, 27, 28, 9, 29, 30, 31, 32, 33, 34, 35, 36, 37, 38, 4, 5, 6, 8, 39, 40, 41, 42, 43, 44, 45, 46, 47, 48, 49, 50, 51, 52, 53, 54, 55, 56, 57, 58, 59, 60, 61, 62, 63, 64, 65, 66, 67, 68, 69, 70, 71, 72, 73, 74, 75, 76, 77, 78, 79, 80, 81, 82, 83, 88, 89, 90, 91, 92, 93, 94, 95, 96, 97, 98, 99, 100, 101, 102] (by decide +kernel) (by decide +kernel)
set_option maxRecDepth 20000 in
theorem gX2_readAll_X2_readLine : GoodIn wsX2_readAll (wsV RX2 35 RX2 yX2_readLine wsX2_readLine) := goodIn_app (goodIn_of _ (by decide +kernel)) ggX2_readAll_X2_readLine
set_option maxRecDepth 20000 in
theorem ggX2_readAll_X1_cutTo : GoodIn wsX2_readAll wsX1_cutTo := goodIn_r _ [87, 9, 93, 94, 95, 96, 97] (by decide +kernel) (by decide +kernel)
set_option maxRecDepth 20000 in
theorem gX2_readAll_X1_cutTo : GoodIn wsX2_readAll (wsV RX2 39 RX1 yX1_cutTo wsX1_cutTo) := goodIn_app (goodIn_of _ (by decide +kernel)) ggX2_readAll_X1_cutTo
theorem dX2_readAll_0 : decode cX2_readAll 0 = .ok (.aload_n 0, 1) := by decide +kernel
theorem dX2_readAll_1 : decode cX2_readAll 1 = .ok (.getfield 26, 3) := by decide +kernel
theorem dX2_readAll_4 : decode cX2_readAll 4 = .ok (.invokevirtual 30, 3) := by decide +kernel
theorem dX2_readAll_7 : decode cX2_readAll 7 = .ok (.istore_n 1, 1) := by decide +kernel
theorem dX2_readAll_8 : decode cX2_readAll 8 = .ok (.iconst 1, 1) := by decide +kernel
theorem dX2_readAll_9 : decode cX2_readAll 9 = .ok (.istore_n 2, 1) := by decide +kernel
theorem dX2_readAll_10 : decode cX2_readAll 10 = .ok (.aload_n 0, 1) := by decide +kernel
theorem dX2_readAll_11 : decode cX2_readAll 11 = .ok (.iconst 0, 1) := by decide +kernel
theorem dX2_readAll_12 : decode cX2_readAll 12 = .ok (.putfield 19, 3) := by decide +kernel
theorem dX2_readAll_15 : decode cX2_readAll 15 = .ok (.iconst 0, 1) := by decide +kernel
theorem dX2_readAll_16 : decode cX2_readAll 16 = .ok (.istore_n 3, 1) := by decide +kernel
theorem dX2_readAll_17 : decode cX2_readAll 17 = .ok (.iload_n 3, 1) := by decide +kernel
theorem dX2_readAll_18 : decode cX2_readAll 18 = .ok (.sipush 300, 3) := by decide +kernel
theorem dX2_readAll_21 : decode cX2_readAll 21 = .ok (.if_icmp .ge 29, 3) := by decide +kernel
theorem dX2_readAll_24 : decode cX2_readAll 24 = .ok (.iload_n 2, 1) := by decide +kernel
theorem dX2_readAll_25 : decode cX2_readAll 25 = .ok (.ifCond .eq 25, 3) := by decide +kernel
theorem dX2_readAll_28 : decode cX2_readAll 28 = .ok (.aload_n 0, 1) := by decide +kernel
theorem dX2_readAll_29 : decode cX2_readAll 29 = .ok (.getfield 19, 3) := by decide +kernel
theorem dX2_readAll_32 : decode cX2_readAll 32 = .ok (.aload_n 0, 1) := by decide +kernel
theorem dX2_readAll_33 : decode cX2_readAll 33 = .ok (.getfield 15, 3) := by decide +kernel
theorem dX2_readAll_36 : decode cX2_readAll 36 = .ok (.if_icmp .ge 14, 3) := by decide +kernel
theorem dX2_readAll_39 : decode cX2_readAll 39 = .ok (.aload_n 0, 1) := by decide +kernel
theorem dX2_readAll_40 : decode cX2_readAll 40 = .ok (.invokevirtual 35, 3) := by decide +kernel
theorem dX2_readAll_43 : decode cX2_readAll 43 = .ok (.istore_n 2, 1) := by decide +kernel
theorem dX2_readAll_44 : decode cX2_readAll 44 = .ok (.iinc 3 1, 3) := by decide +kernel
theorem dX2_readAll_47 : decode cX2_readAll 47 = .ok (.goto (-30), 3) := by decide +kernel
theorem dX2_readAll_50 : decode cX2_readAll 50 = .ok (.aload_n 0, 1) := by decide +kernel
theorem dX2_readAll_51 : decode cX2_readAll 51 = .ok (.iconst 0, 1) := by decide +kernel
theorem dX2_readAll_52 : decode cX2_readAll 52 = .ok (.putfield 15, 3) := by decide +kernel
theorem dX2_readAll_55 : decode cX2_readAll 55 = .ok (.iload_n 2, 1) := by decide +kernel
theorem dX2_readAll_56 : decode cX2_readAll 56 = .ok (.ifCond .ne 18, 3) := by decide +kernel
theorem dX2_readAll_59 : decode cX2_readAll 59 = .ok (.aload_n 0, 1) := by decide +kernel
theorem dX2_readAll_60 : decode cX2_readAll 60 = .ok (.getfield 26, 3) := by decide +kernel
theorem dX2_readAll_63 : decode cX2_readAll 63 = .ok (.iload_n 1, 1) := by decide +kernel
theorem dX2_readAll_64 : decode cX2_readAll 64 = .ok (.invokevirtual 39, 3) := by decide +kernel
theorem dX2_readAll_67 : decode cX2_readAll 67 = .ok (.iconst (-1), 1) := by decide +kernel
theorem dX2_readAll_68 : decode cX2_readAll 68 = .ok (.aload_n 0, 1) := by decide +kernel
theorem dX2_readAll_69 : decode cX2_readAll 69 = .ok (.getfield 19, 3) := by decide +kernel
theorem dX2_readAll_72 : decode cX2_readAll 72 = .ok (.isub, 1) := by decide +kernel
theorem dX2_readAll_73 : decode cX2_readAll 73 = .ok (.ireturn, 1) := by decide +kernel
theorem dX2_readAll_74 : decode cX2_readAll 74 = .ok (.aload_n 0, 1) := by decide +kernel
theorem dX2_readAll_75 : decode cX2_readAll 75 = .ok (.getfield 26, 3) := by decide +kernel
theorem dX2_readAll_78 : decode cX2_readAll 78 = .ok (.invokevirtual 30, 3) := by decide +kernel
theorem dX2_readAll_81 : decode cX2_readAll 81 = .ok (.iload_n 1, 1) := by decide +kernel
theorem dX2_readAll_82 : decode cX2_readAll 82 = .ok (.isub, 1) := by decide +kernel
theorem dX2_readAll_83 : decode cX2_readAll 83 = .ok (.ireturn, 1) := by decide +kernel
set_option maxRecDepth 20000 in
theorem ggX2_readLine_X2_readHead : GoodIn wsX2_readLine wsX2_readHead := goodIn_r _ [7, 1, 2, 8, 9, 10, 6, 11, 12, 13, 14, 15, 16, 17, 18, 19, 20, 21, 22, 23, 24, 25, 26, 27, 28, 29, 30, 80, 81, 82, 83, 84, 85, 86, 87, 88, 89] (by decide +kernel) (by decide +kernel)
set_option maxRecDepth 20000 in
theorem gX2_readLine_X2_readHead : GoodIn wsX2_readLine (wsV RX2 43 RX2 yX2_readHead wsX2_readHead) := goodIn_app (goodIn_of _ (by decide +kernel)) ggX2_readLine_X2_readHead
set_option maxRecDepth 20000 in
theorem ggX2_readLine_X1_count : GoodIn wsX2_readLine wsX1_count := goodIn_r _ [34, 20, 85, 86, 87, 88, 89] (by decide +kernel) (by decide +kernel)
set_option maxRecDepth 20000 in
theorem gX2_readLine_X1_count : GoodIn wsX2_readLine (wsV RX2 30 RX1 yX1_count wsX1_count) := goodIn_app (goodIn_of _ (by decide +kernel)) ggX2_readLine_X1_count
set_option maxRecDepth 20000 in
theorem ggX2_readLine_X2_isHere : GoodIn wsX2_readLine wsX2_isHere := goodIn_r _ [11, 2, 12, 13, 80, 81, 82, 83, 84] (by decide +kernel) (by decide +kernel)
set_option maxRecDepth 20000 in
theorem gX2_readLine_X2_isHere : GoodIn wsX2_readLine (wsV RX2 46 RX2 yX2_isHere wsX2_isHere) := goodIn_app (goodIn_of _ (by decide +kernel)) ggX2_readLine_X2_isHere
set_option maxRecDepth 20000 in
theorem ggX2_readLine_X1_isFullOfLiterals : GoodIn wsX2_readLine wsX1_isFullOfLiterals := goodIn_r _ [38, 22, 85, 86, 87, 88, 89] (by decide +kernel) (by decide +kernel)
set_option maxRecDepth 20000 in
theorem gX2_readLine_X1_isFullOfLiterals : GoodIn wsX2_readLine (wsV RX2 50 RX1 yX1_isFullOfLiterals wsX1_isFullOfLiterals) := goodIn_app (goodIn_of _ (by decide +kernel)) ggX2_readLine_X1_isFullOfLiterals
set_option maxRecDepth 20000 in
theorem ggX2_readLine_X2_readLiteral : GoodIn wsX2_readLine wsX2_readLiteral := goodIn_r _ [42, 2, 43, 1, 8, 9, 10, 6, 11, 12, 13, 44, 45, 46, 47, 48, 49, 50, 51, 52, 53, 23, 24, 25, 26, 27, 28, 29, 30, 54, 55, 56, 57, 58, 59, 60, 17, 61, 62, 63, 64, 65, 22, 66, 67, 36, 37, 38, 68, 69, 70, 71, 80, 81, 82, 83, 84, 90, 91, 92, 93, 94, 85, 86, 87, 88, 89] (by decide +kernel) (by decide +kernel)
set_option maxRecDepth 20000 in
theorem gX2_readLine_X2_readLiteral : GoodIn wsX2_readLine (wsV RX2 54 RX2 yX2_readLiteral wsX2_readLiteral) := goodIn_app (goodIn_of _ (by decide +kernel)) ggX2_readLine_X2_readLiteral
set_option maxRecDepth 20000 in
theorem ggX2_readLine_X1_keepDraft : GoodIn wsX2_readLine wsX1_keepDraft := goodIn_r _ [75, 20, 76, 77, 78, 17, 79, 85, 86, 87, 88, 89] (by decide +kernel) (by decide +kernel)
set_option maxRecDepth 20000 in
theorem gX2_readLine_X1_keepDraft : GoodIn wsX2_readLine (wsV RX2 57 RX1 yX1_keepDraft wsX1_keepDraft) := goodIn_app (goodIn_of _ (by decide +kernel)) ggX2_readLine_X1_keepDraft
theorem dX2_readLine_0 : decode cX2_readLine 0 = .ok (.aload_n 0, 1) := by decide +kernel
theorem dX2_readLine_1 : decode cX2_readLine 1 = .ok (.invokevirtual 43, 3) := by decide +kernel
theorem dX2_readLine_4 : decode cX2_readLine 4 = .ok (.ifCond .ne 5, 3) := by decide +kernel
theorem dX2_readLine_7 : decode cX2_readLine 7 = .ok (.iconst 0, 1) := by decide +kernel
theorem dX2_readLine_8 : decode cX2_readLine 8 = .ok (.ireturn, 1) := by decide +kernel
theorem dX2_readLine_9 : decode cX2_readLine 9 = .ok (.aload_n 0, 1) := by decide +kernel
theorem dX2_readLine_10 : decode cX2_readLine 10 = .ok (.getfield 26, 3) := by decide +kernel
theorem dX2_readLine_13 : decode cX2_readLine 13 = .ok (.invokevirtual 30, 3) := by decide +kernel
theorem dX2_readLine_16 : decode cX2_readLine 16 = .ok (.istore_n 1, 1) := by decide +kernel
theorem dX2_readLine_17 : decode cX2_readLine 17 = .ok (.iconst 0, 1) := by decide +kernel
theorem dX2_readLine_18 : decode cX2_readLine 18 = .ok (.istore_n 2, 1) := by decide +kernel
theorem dX2_readLine_19 : decode cX2_readLine 19 = .ok (.iload_n 2, 1) := by decide +kernel
theorem dX2_readLine_20 : decode cX2_readLine 20 = .ok (.sipush 300, 3) := by decide +kernel
theorem dX2_readLine_23 : decode cX2_readLine 23 = .ok (.if_icmp .ge 39, 3) := by decide +kernel
theorem dX2_readLine_26 : decode cX2_readLine 26 = .ok (.aload_n 0, 1) := by decide +kernel
theorem dX2_readLine_27 : decode cX2_readLine 27 = .ok (.bipush 32, 2) := by decide +kernel
theorem dX2_readLine_29 : decode cX2_readLine 29 = .ok (.invokevirtual 46, 3) := by decide +kernel
theorem dX2_readLine_32 : decode cX2_readLine 32 = .ok (.ifCond .eq 30, 3) := by decide +kernel
theorem dX2_readLine_35 : decode cX2_readLine 35 = .ok (.aload_n 0, 1) := by decide +kernel
theorem dX2_readLine_36 : decode cX2_readLine 36 = .ok (.getfield 26, 3) := by decide +kernel
theorem dX2_readLine_39 : decode cX2_readLine 39 = .ok (.iload_n 1, 1) := by decide +kernel
theorem dX2_readLine_40 : decode cX2_readLine 40 = .ok (.invokevirtual 50, 3) := by decide +kernel
theorem dX2_readLine_43 : decode cX2_readLine 43 = .ok (.ifCond .ne 11, 3) := by decide +kernel
theorem dX2_readLine_46 : decode cX2_readLine 46 = .ok (.aload_n 0, 1) := by decide +kernel
theorem dX2_readLine_47 : decode cX2_readLine 47 = .ok (.iload_n 1, 1) := by decide +kernel
theorem dX2_readLine_48 : decode cX2_readLine 48 = .ok (.invokevirtual 54, 3) := by decide +kernel
theorem dX2_readLine_51 : decode cX2_readLine 51 = .ok (.ifCond .ne 5, 3) := by decide +kernel
theorem dX2_readLine_54 : decode cX2_readLine 54 = .ok (.iconst 0, 1) := by decide +kernel
theorem dX2_readLine_55 : decode cX2_readLine 55 = .ok (.ireturn, 1) := by decide +kernel
theorem dX2_readLine_56 : decode cX2_readLine 56 = .ok (.iinc 2 1, 3) := by decide +kernel
theorem dX2_readLine_59 : decode cX2_readLine 59 = .ok (.goto (-40), 3) := by decide +kernel
theorem dX2_readLine_62 : decode cX2_readLine 62 = .ok (.aload_n 0, 1) := by decide +kernel
theorem dX2_readLine_63 : decode cX2_readLine 63 = .ok (.bipush 59, 2) := by decide +kernel
theorem dX2_readLine_65 : decode cX2_readLine 65 = .ok (.invokevirtual 46, 3) := by decide +kernel
theorem dX2_readLine_68 : decode cX2_readLine 68 = .ok (.ifCond .eq 13, 3) := by decide +kernel
theorem dX2_readLine_71 : decode cX2_readLine 71 = .ok (.aload_n 0, 1) := by decide +kernel
theorem dX2_readLine_72 : decode cX2_readLine 72 = .ok (.getfield 26, 3) := by decide +kernel
theorem dX2_readLine_75 : decode cX2_readLine 75 = .ok (.invokevirtual 57, 3) := by decide +kernel
theorem dX2_readLine_78 : decode cX2_readLine 78 = .ok (.ifCond .ne 5, 3) := by decide +kernel
theorem dX2_readLine_81 : decode cX2_readLine 81 = .ok (.iconst 0, 1) := by decide +kernel
theorem dX2_readLine_82 : decode cX2_readLine 82 = .ok (.ireturn, 1) := by decide +kernel
theorem dX2_readLine_83 : decode cX2_readLine 83 = .ok (.aload_n 0, 1) := by decide +kernel
theorem dX2_readLine_84 : decode cX2_readLine 84 = .ok (.dup, 1) := by decide +kernel
theorem dX2_readLine_85 : decode cX2_readLine 85 = .ok (.getfield 19, 3) := by decide +kernel
theorem dX2_readLine_88 : decode cX2_readLine 88 = .ok (.iconst 1, 1) := by decide +kernel
theorem dX2_readLine_89 : decode cX2_readLine 89 = .ok (.iadd, 1) := by decide +kernel
theorem dX2_readLine_90 : decode cX2_readLine 90 = .ok (.putfield 19, 3) := by decide +kernel
theorem dX2_readLine_93 : decode cX2_readLine 93 = .ok (.iconst 1, 1) := by decide +kernel
theorem dX2_readLine_94 : decode cX2_readLine 94 = .ok (.ireturn, 1) := by decide +kernel
set_option maxRecDepth 20000 in
theorem ggX2_readHead_X2_isHere : GoodIn wsX2_readHead wsX2_isHere := goodIn_r _ [7, 2, 8, 9, 27, 28, 29, 30, 31] (by decide +kernel) (by decide +kernel)
set_option maxRecDepth 20000 in
theorem gX2_readHead_X2_isHere : GoodIn wsX2_readHead (wsV RX2 46 RX2 yX2_isHere wsX2_isHere) := goodIn_app (goodIn_of _ (by decide +kernel)) ggX2_readHead_X2_isHere
set_option maxRecDepth 20000 in
theorem ggX2_readHead_X1_startDraft : GoodIn wsX2_readHead wsX1_startDraft := goodIn_r _ [14, 15, 16, 17, 18, 32, 33, 34, 35, 36] (by decide +kernel) (by decide +kernel)
set_option maxRecDepth 20000 in
theorem gX2_readHead_X1_startDraft : GoodIn wsX2_readHead (wsV RX2 60 RX1 yX1_startDraft wsX1_startDraft) := goodIn_app (goodIn_of _ (by decide +kernel)) ggX2_readHead_X1_startDraft
set_option maxRecDepth 20000 in
theorem ggX2_readHead_X2_readNumber : GoodIn wsX2_readHead wsX2_readNumber := goodIn_r _ [22, 2, 23, 24, 25, 6, 26, 8, 9, 27, 28, 29, 30, 31] (by decide +kernel) (by decide +kernel)
set_option maxRecDepth 20000 in
theorem gX2_readHead_X2_readNumber : GoodIn wsX2_readHead (wsV RX2 64 RX2 yX2_readNumber wsX2_readNumber) := goodIn_app (goodIn_of _ (by decide +kernel)) ggX2_readHead_X2_readNumber
theorem dX2_readHead_0 : decode cX2_readHead 0 = .ok (.aload_n 0, 1) := by decide +kernel
theorem dX2_readHead_1 : decode cX2_readHead 1 = .ok (.bipush 117, 2) := by decide +kernel
theorem dX2_readHead_3 : decode cX2_readHead 3 = .ok (.invokevirtual 46, 3) := by decide +kernel
theorem dX2_readHead_6 : decode cX2_readHead 6 = .ok (.ifCond .ne 12, 3) := by decide +kernel
theorem dX2_readHead_9 : decode cX2_readHead 9 = .ok (.aload_n 0, 1) := by decide +kernel
theorem dX2_readHead_10 : decode cX2_readHead 10 = .ok (.bipush 98, 2) := by decide +kernel
theorem dX2_readHead_12 : decode cX2_readHead 12 = .ok (.invokevirtual 46, 3) := by decide +kernel
theorem dX2_readHead_15 : decode cX2_readHead 15 = .ok (.ifCond .eq 37, 3) := by decide +kernel
theorem dX2_readHead_18 : decode cX2_readHead 18 = .ok (.aload_n 0, 1) := by decide +kernel
theorem dX2_readHead_19 : decode cX2_readHead 19 = .ok (.getfield 26, 3) := by decide +kernel
theorem dX2_readHead_22 : decode cX2_readHead 22 = .ok (.aload_n 0, 1) := by decide +kernel
theorem dX2_readHead_23 : decode cX2_readHead 23 = .ok (.bipush 117, 2) := by decide +kernel
theorem dX2_readHead_25 : decode cX2_readHead 25 = .ok (.invokevirtual 46, 3) := by decide +kernel
theorem dX2_readHead_28 : decode cX2_readHead 28 = .ok (.ifCond .eq 7, 3) := by decide +kernel
theorem dX2_readHead_31 : decode cX2_readHead 31 = .ok (.iconst 1, 1) := by decide +kernel
theorem dX2_readHead_32 : decode cX2_readHead 32 = .ok (.goto 4, 3) := by decide +kernel
theorem dX2_readHead_35 : decode cX2_readHead 35 = .ok (.iconst 3, 1) := by decide +kernel
theorem dX2_readHead_36 : decode cX2_readHead 36 = .ok (.iconst 0, 1) := by decide +kernel
theorem dX2_readHead_37 : decode cX2_readHead 37 = .ok (.invokevirtual 60, 3) := by decide +kernel
theorem dX2_readHead_40 : decode cX2_readHead 40 = .ok (.aload_n 0, 1) := by decide +kernel
theorem dX2_readHead_41 : decode cX2_readHead 41 = .ok (.dup, 1) := by decide +kernel
theorem dX2_readHead_42 : decode cX2_readHead 42 = .ok (.getfield 19, 3) := by decide +kernel
theorem dX2_readHead_45 : decode cX2_readHead 45 = .ok (.iconst 1, 1) := by decide +kernel
theorem dX2_readHead_46 : decode cX2_readHead 46 = .ok (.iadd, 1) := by decide +kernel
theorem dX2_readHead_47 : decode cX2_readHead 47 = .ok (.putfield 19, 3) := by decide +kernel
theorem dX2_readHead_50 : decode cX2_readHead 50 = .ok (.iconst 1, 1) := by decide +kernel
theorem dX2_readHead_51 : decode cX2_readHead 51 = .ok (.ireturn, 1) := by decide +kernel
theorem dX2_readHead_52 : decode cX2_readHead 52 = .ok (.aload_n 0, 1) := by decide +kernel
theorem dX2_readHead_53 : decode cX2_readHead 53 = .ok (.bipush 114, 2) := by decide +kernel
theorem dX2_readHead_55 : decode cX2_readHead 55 = .ok (.invokevirtual 46, 3) := by decide +kernel
theorem dX2_readHead_58 : decode cX2_readHead 58 = .ok (.ifCond .ne 14, 3) := by decide +kernel
theorem dX2_readHead_61 : decode cX2_readHead 61 = .ok (.aload_n 0, 1) := by decide +kernel
theorem dX2_readHead_62 : decode cX2_readHead 62 = .ok (.bipush 115, 2) := by decide +kernel
theorem dX2_readHead_64 : decode cX2_readHead 64 = .ok (.invokevirtual 46, 3) := by decide +kernel
theorem dX2_readHead_67 : decode cX2_readHead 67 = .ok (.ifCond .ne 5, 3) := by decide +kernel
theorem dX2_readHead_70 : decode cX2_readHead 70 = .ok (.iconst 0, 1) := by decide +kernel
theorem dX2_readHead_71 : decode cX2_readHead 71 = .ok (.ireturn, 1) := by decide +kernel
theorem dX2_readHead_72 : decode cX2_readHead 72 = .ok (.aload_n 0, 1) := by decide +kernel
theorem dX2_readHead_73 : decode cX2_readHead 73 = .ok (.bipush 114, 2) := by decide +kernel
theorem dX2_readHead_75 : decode cX2_readHead 75 = .ok (.invokevirtual 46, 3) := by decide +kernel
theorem dX2_readHead_78 : decode cX2_readHead 78 = .ok (.ifCond .eq 7, 3) := by decide +kernel
theorem dX2_readHead_81 : decode cX2_readHead 81 = .ok (.iconst 0, 1) := by decide +kernel
theorem dX2_readHead_82 : decode cX2_readHead 82 = .ok (.goto 4, 3) := by decide +kernel
theorem dX2_readHead_85 : decode cX2_readHead 85 = .ok (.iconst 2, 1) := by decide +kernel
theorem dX2_readHead_86 : decode cX2_readHead 86 = .ok (.istore_n 1, 1) := by decide +kernel
theorem dX2_readHead_87 : decode cX2_readHead 87 = .ok (.aload_n 0, 1) := by decide +kernel
theorem dX2_readHead_88 : decode cX2_readHead 88 = .ok (.dup, 1) := by decide +kernel
theorem dX2_readHead_89 : decode cX2_readHead 89 = .ok (.getfield 19, 3) := by decide +kernel
theorem dX2_readHead_92 : decode cX2_readHead 92 = .ok (.iconst 1, 1) := by decide +kernel
theorem dX2_readHead_93 : decode cX2_readHead 93 = .ok (.iadd, 1) := by decide +kernel
theorem dX2_readHead_94 : decode cX2_readHead 94 = .ok (.putfield 19, 3) := by decide +kernel
theorem dX2_readHead_97 : decode cX2_readHead 97 = .ok (.aload_n 0, 1) := by decide +kernel
theorem dX2_readHead_98 : decode cX2_readHead 98 = .ok (.invokevirtual 64, 3) := by decide +kernel
theorem dX2_readHead_101 : decode cX2_readHead 101 = .ok (.istore_n 2, 1) := by decide +kernel
theorem dX2_readHead_102 : decode cX2_readHead 102 = .ok (.aload_n 0, 1) := by decide +kernel
theorem dX2_readHead_103 : decode cX2_readHead 103 = .ok (.getfield 26, 3) := by decide +kernel
theorem dX2_readHead_106 : decode cX2_readHead 106 = .ok (.iload_n 1, 1) := by decide +kernel
theorem dX2_readHead_107 : decode cX2_readHead 107 = .ok (.iload_n 2, 1) := by decide +kernel
theorem dX2_readHead_108 : decode cX2_readHead 108 = .ok (.invokevirtual 60, 3) := by decide +kernel
theorem dX2_readHead_111 : decode cX2_readHead 111 = .ok (.iload_n 2, 1) := by decide +kernel
theorem dX2_readHead_112 : decode cX2_readHead 112 = .ok (.iconst (-1), 1) := by decide +kernel
theorem dX2_readHead_113 : decode cX2_readHead 113 = .ok (.if_icmp .eq 7, 3) := by decide +kernel
theorem dX2_readHead_116 : decode cX2_readHead 116 = .ok (.iconst 1, 1) := by decide +kernel
theorem dX2_readHead_117 : decode cX2_readHead 117 = .ok (.goto 4, 3) := by decide +kernel
theorem dX2_readHead_120 : decode cX2_readHead 120 = .ok (.iconst 0, 1) := by decide +kernel
theorem dX2_readHead_121 : decode cX2_readHead 121 = .ok (.ireturn, 1) := by decide +kernel
set_option maxRecDepth 20000 in
theorem ggX2_readLiteral_X2_isHere : GoodIn wsX2_readLiteral wsX2_isHere := goodIn_r _ [8, 1, 9, 10, 52, 53, 54, 55, 56] (by decide +kernel) (by decide +kernel)
set_option maxRecDepth 20000 in
theorem gX2_readLiteral_X2_isHere : GoodIn wsX2_readLiteral (wsV RX2 46 RX2 yX2_isHere wsX2_isHere) := goodIn_app (goodIn_of _ (by decide +kernel)) ggX2_readLiteral_X2_isHere
set_option maxRecDepth 20000 in
theorem ggX2_readLiteral_X0_cells : GoodIn wsX2_readLiteral wsX0_cells := goodIn_r _ [15, 16, 57, 58, 59, 60, 61] (by decide +kernel) (by decide +kernel)
set_option maxRecDepth 20000 in
theorem gX2_readLiteral_X0_cells : GoodIn wsX2_readLiteral (wsV RX2 67 RX0 yX0_cells wsX0_cells) := goodIn_app (goodIn_of _ (by decide +kernel)) ggX2_readLiteral_X0_cells
set_option maxRecDepth 20000 in
theorem ggX2_readLiteral_X2_readNumberBelow : GoodIn wsX2_readLiteral wsX2_readNumberBelow := goodIn_r _ [20, 1, 21, 22, 23, 7, 24, 25, 26, 27, 28, 9, 10, 52, 53, 54, 55, 56] (by decide +kernel) (by decide +kernel)
set_option maxRecDepth 20000 in
theorem gX2_readLiteral_X2_readNumberBelow : GoodIn wsX2_readLiteral (wsV RX2 72 RX2 yX2_readNumberBelow wsX2_readNumberBelow) := goodIn_app (goodIn_of _ (by decide +kernel)) ggX2_readLiteral_X2_readNumberBelow
set_option maxRecDepth 20000 in
theorem ggX2_readLiteral_X0_symbols : GoodIn wsX2_readLiteral wsX0_symbols := goodIn_r _ [32, 33, 57, 58, 59, 60, 61] (by decide +kernel) (by decide +kernel)
set_option maxRecDepth 20000 in
theorem gX2_readLiteral_X0_symbols : GoodIn wsX2_readLiteral (wsV RX2 76 RX0 yX0_symbols wsX0_symbols) := goodIn_app (goodIn_of _ (by decide +kernel)) ggX2_readLiteral_X0_symbols
set_option maxRecDepth 20000 in
theorem ggX2_readLiteral_X1_literalOf : GoodIn wsX2_readLiteral wsX1_literalOf := goodIn_r _ [37] (by decide +kernel) (by decide +kernel)
set_option maxRecDepth 20000 in
theorem gX2_readLiteral_X1_literalOf : GoodIn wsX2_readLiteral (va_wsS RX2 79 yX1_literalOf wsX1_literalOf) := goodIn_app (goodIn_of _ (by decide +kernel)) ggX2_readLiteral_X1_literalOf
set_option maxRecDepth 20000 in
theorem ggX2_readLiteral_X1_addLiteral : GoodIn wsX2_readLiteral wsX1_addLiteral := goodIn_r _ [41, 42, 43, 44, 45, 46, 36, 47, 48, 49, 50, 51, 62, 63, 64, 65, 66] (by decide +kernel) (by decide +kernel)
set_option maxRecDepth 20000 in
theorem gX2_readLiteral_X1_addLiteral : GoodIn wsX2_readLiteral (wsV RX2 83 RX1 yX1_addLiteral wsX1_addLiteral) := goodIn_app (goodIn_of _ (by decide +kernel)) ggX2_readLiteral_X1_addLiteral
theorem dX2_readLiteral_0 : decode cX2_readLiteral 0 = .ok (.aload_n 0, 1) := by decide +kernel
theorem dX2_readLiteral_1 : decode cX2_readLiteral 1 = .ok (.dup, 1) := by decide +kernel
theorem dX2_readLiteral_2 : decode cX2_readLiteral 2 = .ok (.getfield 19, 3) := by decide +kernel
theorem dX2_readLiteral_5 : decode cX2_readLiteral 5 = .ok (.iconst 1, 1) := by decide +kernel
theorem dX2_readLiteral_6 : decode cX2_readLiteral 6 = .ok (.iadd, 1) := by decide +kernel
theorem dX2_readLiteral_7 : decode cX2_readLiteral 7 = .ok (.putfield 19, 3) := by decide +kernel
theorem dX2_readLiteral_10 : decode cX2_readLiteral 10 = .ok (.aload_n 0, 1) := by decide +kernel
theorem dX2_readLiteral_11 : decode cX2_readLiteral 11 = .ok (.bipush 43, 2) := by decide +kernel
theorem dX2_readLiteral_13 : decode cX2_readLiteral 13 = .ok (.invokevirtual 46, 3) := by decide +kernel
theorem dX2_readLiteral_16 : decode cX2_readLiteral 16 = .ok (.istore_n 2, 1) := by decide +kernel
theorem dX2_readLiteral_17 : decode cX2_readLiteral 17 = .ok (.iload_n 2, 1) := by decide +kernel
theorem dX2_readLiteral_18 : decode cX2_readLiteral 18 = .ok (.ifCond .ne 14, 3) := by decide +kernel
theorem dX2_readLiteral_21 : decode cX2_readLiteral 21 = .ok (.aload_n 0, 1) := by decide +kernel
theorem dX2_readLiteral_22 : decode cX2_readLiteral 22 = .ok (.bipush 45, 2) := by decide +kernel
theorem dX2_readLiteral_24 : decode cX2_readLiteral 24 = .ok (.invokevirtual 46, 3) := by decide +kernel
theorem dX2_readLiteral_27 : decode cX2_readLiteral 27 = .ok (.ifCond .ne 5, 3) := by decide +kernel
theorem dX2_readLiteral_30 : decode cX2_readLiteral 30 = .ok (.iconst 0, 1) := by decide +kernel
theorem dX2_readLiteral_31 : decode cX2_readLiteral 31 = .ok (.ireturn, 1) := by decide +kernel
theorem dX2_readLiteral_32 : decode cX2_readLiteral 32 = .ok (.aload_n 0, 1) := by decide +kernel
theorem dX2_readLiteral_33 : decode cX2_readLiteral 33 = .ok (.dup, 1) := by decide +kernel
theorem dX2_readLiteral_34 : decode cX2_readLiteral 34 = .ok (.getfield 19, 3) := by decide +kernel
theorem dX2_readLiteral_37 : decode cX2_readLiteral 37 = .ok (.iconst 1, 1) := by decide +kernel
theorem dX2_readLiteral_38 : decode cX2_readLiteral 38 = .ok (.iadd, 1) := by decide +kernel
theorem dX2_readLiteral_39 : decode cX2_readLiteral 39 = .ok (.putfield 19, 3) := by decide +kernel
theorem dX2_readLiteral_42 : decode cX2_readLiteral 42 = .ok (.aload_n 0, 1) := by decide +kernel
theorem dX2_readLiteral_43 : decode cX2_readLiteral 43 = .ok (.aload_n 0, 1) := by decide +kernel
theorem dX2_readLiteral_44 : decode cX2_readLiteral 44 = .ok (.getfield 22, 3) := by decide +kernel
theorem dX2_readLiteral_47 : decode cX2_readLiteral 47 = .ok (.invokevirtual 67, 3) := by decide +kernel
theorem dX2_readLiteral_50 : decode cX2_readLiteral 50 = .ok (.invokevirtual 72, 3) := by decide +kernel
theorem dX2_readLiteral_53 : decode cX2_readLiteral 53 = .ok (.istore_n 3, 1) := by decide +kernel
theorem dX2_readLiteral_54 : decode cX2_readLiteral 54 = .ok (.iload_n 3, 1) := by decide +kernel
theorem dX2_readLiteral_55 : decode cX2_readLiteral 55 = .ok (.iconst (-1), 1) := by decide +kernel
theorem dX2_readLiteral_56 : decode cX2_readLiteral 56 = .ok (.if_icmp .eq 12, 3) := by decide +kernel
theorem dX2_readLiteral_59 : decode cX2_readLiteral 59 = .ok (.aload_n 0, 1) := by decide +kernel
theorem dX2_readLiteral_60 : decode cX2_readLiteral 60 = .ok (.bipush 46, 2) := by decide +kernel
theorem dX2_readLiteral_62 : decode cX2_readLiteral 62 = .ok (.invokevirtual 46, 3) := by decide +kernel
theorem dX2_readLiteral_65 : decode cX2_readLiteral 65 = .ok (.ifCond .ne 5, 3) := by decide +kernel
theorem dX2_readLiteral_68 : decode cX2_readLiteral 68 = .ok (.iconst 0, 1) := by decide +kernel
theorem dX2_readLiteral_69 : decode cX2_readLiteral 69 = .ok (.ireturn, 1) := by decide +kernel
theorem dX2_readLiteral_70 : decode cX2_readLiteral 70 = .ok (.aload_n 0, 1) := by decide +kernel
theorem dX2_readLiteral_71 : decode cX2_readLiteral 71 = .ok (.dup, 1) := by decide +kernel
theorem dX2_readLiteral_72 : decode cX2_readLiteral 72 = .ok (.getfield 19, 3) := by decide +kernel
theorem dX2_readLiteral_75 : decode cX2_readLiteral 75 = .ok (.iconst 1, 1) := by decide +kernel
theorem dX2_readLiteral_76 : decode cX2_readLiteral 76 = .ok (.iadd, 1) := by decide +kernel
theorem dX2_readLiteral_77 : decode cX2_readLiteral 77 = .ok (.putfield 19, 3) := by decide +kernel
theorem dX2_readLiteral_80 : decode cX2_readLiteral 80 = .ok (.aload_n 0, 1) := by decide +kernel
theorem dX2_readLiteral_81 : decode cX2_readLiteral 81 = .ok (.aload_n 0, 1) := by decide +kernel
theorem dX2_readLiteral_82 : decode cX2_readLiteral 82 = .ok (.getfield 22, 3) := by decide +kernel
theorem dX2_readLiteral_85 : decode cX2_readLiteral 85 = .ok (.invokevirtual 76, 3) := by decide +kernel
theorem dX2_readLiteral_88 : decode cX2_readLiteral 88 = .ok (.invokevirtual 72, 3) := by decide +kernel
theorem dX2_readLiteral_91 : decode cX2_readLiteral 91 = .ok (.istore 4, 2) := by decide +kernel
theorem dX2_readLiteral_93 : decode cX2_readLiteral 93 = .ok (.iload 4, 2) := by decide +kernel
theorem dX2_readLiteral_95 : decode cX2_readLiteral 95 = .ok (.iconst (-1), 1) := by decide +kernel
theorem dX2_readLiteral_96 : decode cX2_readLiteral 96 = .ok (.if_icmp .ne 5, 3) := by decide +kernel
theorem dX2_readLiteral_99 : decode cX2_readLiteral 99 = .ok (.iconst 0, 1) := by decide +kernel
theorem dX2_readLiteral_100 : decode cX2_readLiteral 100 = .ok (.ireturn, 1) := by decide +kernel
theorem dX2_readLiteral_101 : decode cX2_readLiteral 101 = .ok (.aload_n 0, 1) := by decide +kernel
theorem dX2_readLiteral_102 : decode cX2_readLiteral 102 = .ok (.getfield 26, 3) := by decide +kernel
theorem dX2_readLiteral_105 : decode cX2_readLiteral 105 = .ok (.iload_n 1, 1) := by decide +kernel
theorem dX2_readLiteral_106 : decode cX2_readLiteral 106 = .ok (.iload_n 3, 1) := by decide +kernel
theorem dX2_readLiteral_107 : decode cX2_readLiteral 107 = .ok (.iload 4, 2) := by decide +kernel
theorem dX2_readLiteral_109 : decode cX2_readLiteral 109 = .ok (.iload_n 2, 1) := by decide +kernel
theorem dX2_readLiteral_110 : decode cX2_readLiteral 110 = .ok (.invokestatic 79, 3) := by decide +kernel
theorem dX2_readLiteral_113 : decode cX2_readLiteral 113 = .ok (.invokevirtual 83, 3) := by decide +kernel
theorem dX2_readLiteral_116 : decode cX2_readLiteral 116 = .ok (.ifCond .ne 15, 3) := by decide +kernel
theorem dX2_readLiteral_119 : decode cX2_readLiteral 119 = .ok (.aload_n 0, 1) := by decide +kernel
theorem dX2_readLiteral_120 : decode cX2_readLiteral 120 = .ok (.dup, 1) := by decide +kernel
theorem dX2_readLiteral_121 : decode cX2_readLiteral 121 = .ok (.getfield 19, 3) := by decide +kernel
theorem dX2_readLiteral_124 : decode cX2_readLiteral 124 = .ok (.iconst 1, 1) := by decide +kernel
theorem dX2_readLiteral_125 : decode cX2_readLiteral 125 = .ok (.isub, 1) := by decide +kernel
theorem dX2_readLiteral_126 : decode cX2_readLiteral 126 = .ok (.putfield 19, 3) := by decide +kernel
theorem dX2_readLiteral_129 : decode cX2_readLiteral 129 = .ok (.iconst 0, 1) := by decide +kernel
theorem dX2_readLiteral_130 : decode cX2_readLiteral 130 = .ok (.ireturn, 1) := by decide +kernel
theorem dX2_readLiteral_131 : decode cX2_readLiteral 131 = .ok (.iconst 1, 1) := by decide +kernel
theorem dX2_readLiteral_132 : decode cX2_readLiteral 132 = .ok (.ireturn, 1) := by decide +kernel
set_option maxRecDepth 20000 in
theorem ggX2_readNumberBelow_X2_readNumber : GoodIn wsX2_readNumberBelow wsX2_readNumber := goodIn_r _ [6, 1, 7, 8, 9, 5, 10, 11, 12, 13, 14, 15, 16, 17] (by decide +kernel) (by decide +kernel)
set_option maxRecDepth 20000 in
theorem gX2_readNumberBelow_X2_readNumber : GoodIn wsX2_readNumberBelow (wsV RX2 64 RX2 yX2_readNumber wsX2_readNumber) := goodIn_app (goodIn_of _ (by decide +kernel)) ggX2_readNumberBelow_X2_readNumber
theorem dX2_readNumberBelow_0 : decode cX2_readNumberBelow 0 = .ok (.aload_n 0, 1) := by decide +kernel
theorem dX2_readNumberBelow_1 : decode cX2_readNumberBelow 1 = .ok (.invokevirtual 64, 3) := by decide +kernel
theorem dX2_readNumberBelow_4 : decode cX2_readNumberBelow 4 = .ok (.istore_n 2, 1) := by decide +kernel
theorem dX2_readNumberBelow_5 : decode cX2_readNumberBelow 5 = .ok (.iload_n 2, 1) := by decide +kernel
theorem dX2_readNumberBelow_6 : decode cX2_readNumberBelow 6 = .ok (.iload_n 1, 1) := by decide +kernel
theorem dX2_readNumberBelow_7 : decode cX2_readNumberBelow 7 = .ok (.if_icmp .lt 15, 3) := by decide +kernel
theorem dX2_readNumberBelow_10 : decode cX2_readNumberBelow 10 = .ok (.aload_n 0, 1) := by decide +kernel
theorem dX2_readNumberBelow_11 : decode cX2_readNumberBelow 11 = .ok (.dup, 1) := by decide +kernel
theorem dX2_readNumberBelow_12 : decode cX2_readNumberBelow 12 = .ok (.getfield 19, 3) := by decide +kernel
theorem dX2_readNumberBelow_15 : decode cX2_readNumberBelow 15 = .ok (.iconst 1, 1) := by decide +kernel
theorem dX2_readNumberBelow_16 : decode cX2_readNumberBelow 16 = .ok (.isub, 1) := by decide +kernel
theorem dX2_readNumberBelow_17 : decode cX2_readNumberBelow 17 = .ok (.putfield 19, 3) := by decide +kernel
theorem dX2_readNumberBelow_20 : decode cX2_readNumberBelow 20 = .ok (.iconst (-1), 1) := by decide +kernel
theorem dX2_readNumberBelow_21 : decode cX2_readNumberBelow 21 = .ok (.ireturn, 1) := by decide +kernel
theorem dX2_readNumberBelow_22 : decode cX2_readNumberBelow 22 = .ok (.iload_n 2, 1) := by decide +kernel
theorem dX2_readNumberBelow_23 : decode cX2_readNumberBelow 23 = .ok (.ireturn, 1) := by decide +kernel
set_option maxRecDepth 20000 in
theorem ggX2_readNumber_X2_digitHere : GoodIn wsX2_readNumber wsX2_digitHere := goodIn_r _ [6, 1, 7, 8, 9, 10, 11, 12, 13] (by decide +kernel) (by decide +kernel)
set_option maxRecDepth 20000 in
theorem gX2_readNumber_X2_digitHere : GoodIn wsX2_readNumber (wsV RX2 87 RX2 yX2_digitHere wsX2_digitHere) := goodIn_app (goodIn_of _ (by decide +kernel)) ggX2_readNumber_X2_digitHere
theorem dX2_readNumber_0 : decode cX2_readNumber 0 = .ok (.aload_n 0, 1) := by decide +kernel
theorem dX2_readNumber_1 : decode cX2_readNumber 1 = .ok (.invokevirtual 87, 3) := by decide +kernel
theorem dX2_readNumber_4 : decode cX2_readNumber 4 = .ok (.istore_n 1, 1) := by decide +kernel
theorem dX2_readNumber_5 : decode cX2_readNumber 5 = .ok (.iload_n 1, 1) := by decide +kernel
theorem dX2_readNumber_6 : decode cX2_readNumber 6 = .ok (.iconst (-1), 1) := by decide +kernel
theorem dX2_readNumber_7 : decode cX2_readNumber 7 = .ok (.if_icmp .ne 5, 3) := by decide +kernel
theorem dX2_readNumber_10 : decode cX2_readNumber 10 = .ok (.iconst (-1), 1) := by decide +kernel
theorem dX2_readNumber_11 : decode cX2_readNumber 11 = .ok (.ireturn, 1) := by decide +kernel
theorem dX2_readNumber_12 : decode cX2_readNumber 12 = .ok (.aload_n 0, 1) := by decide +kernel
theorem dX2_readNumber_13 : decode cX2_readNumber 13 = .ok (.dup, 1) := by decide +kernel
theorem dX2_readNumber_14 : decode cX2_readNumber 14 = .ok (.getfield 19, 3) := by decide +kernel
theorem dX2_readNumber_17 : decode cX2_readNumber 17 = .ok (.iconst 1, 1) := by decide +kernel
theorem dX2_readNumber_18 : decode cX2_readNumber 18 = .ok (.iadd, 1) := by decide +kernel
theorem dX2_readNumber_19 : decode cX2_readNumber 19 = .ok (.putfield 19, 3) := by decide +kernel
theorem dX2_readNumber_22 : decode cX2_readNumber 22 = .ok (.iload_n 1, 1) := by decide +kernel
theorem dX2_readNumber_23 : decode cX2_readNumber 23 = .ok (.ifCond .ne 7, 3) := by decide +kernel
theorem dX2_readNumber_26 : decode cX2_readNumber 26 = .ok (.iconst (-1), 1) := by decide +kernel
theorem dX2_readNumber_27 : decode cX2_readNumber 27 = .ok (.goto 7, 3) := by decide +kernel
theorem dX2_readNumber_30 : decode cX2_readNumber 30 = .ok (.aload_n 0, 1) := by decide +kernel
theorem dX2_readNumber_31 : decode cX2_readNumber 31 = .ok (.invokevirtual 87, 3) := by decide +kernel
theorem dX2_readNumber_34 : decode cX2_readNumber 34 = .ok (.istore_n 2, 1) := by decide +kernel
theorem dX2_readNumber_35 : decode cX2_readNumber 35 = .ok (.iload_n 2, 1) := by decide +kernel
theorem dX2_readNumber_36 : decode cX2_readNumber 36 = .ok (.iconst (-1), 1) := by decide +kernel
theorem dX2_readNumber_37 : decode cX2_readNumber 37 = .ok (.if_icmp .ne 5, 3) := by decide +kernel
theorem dX2_readNumber_40 : decode cX2_readNumber 40 = .ok (.iload_n 1, 1) := by decide +kernel
theorem dX2_readNumber_41 : decode cX2_readNumber 41 = .ok (.ireturn, 1) := by decide +kernel
theorem dX2_readNumber_42 : decode cX2_readNumber 42 = .ok (.aload_n 0, 1) := by decide +kernel
theorem dX2_readNumber_43 : decode cX2_readNumber 43 = .ok (.dup, 1) := by decide +kernel
theorem dX2_readNumber_44 : decode cX2_readNumber 44 = .ok (.getfield 19, 3) := by decide +kernel
theorem dX2_readNumber_47 : decode cX2_readNumber 47 = .ok (.iconst 1, 1) := by decide +kernel
theorem dX2_readNumber_48 : decode cX2_readNumber 48 = .ok (.iadd, 1) := by decide +kernel
theorem dX2_readNumber_49 : decode cX2_readNumber 49 = .ok (.putfield 19, 3) := by decide +kernel
theorem dX2_readNumber_52 : decode cX2_readNumber 52 = .ok (.bipush 10, 2) := by decide +kernel
theorem dX2_readNumber_54 : decode cX2_readNumber 54 = .ok (.iload_n 1, 1) := by decide +kernel
theorem dX2_readNumber_55 : decode cX2_readNumber 55 = .ok (.imul, 1) := by decide +kernel
theorem dX2_readNumber_56 : decode cX2_readNumber 56 = .ok (.iload_n 2, 1) := by decide +kernel
theorem dX2_readNumber_57 : decode cX2_readNumber 57 = .ok (.iadd, 1) := by decide +kernel
theorem dX2_readNumber_58 : decode cX2_readNumber 58 = .ok (.ireturn, 1) := by decide +kernel
theorem dX2_digitHere_0 : decode cX2_digitHere 0 = .ok (.aload_n 0, 1) := by decide +kernel
theorem dX2_digitHere_1 : decode cX2_digitHere 1 = .ok (.getfield 19, 3) := by decide +kernel
theorem dX2_digitHere_4 : decode cX2_digitHere 4 = .ok (.aload_n 0, 1) := by decide +kernel
theorem dX2_digitHere_5 : decode cX2_digitHere 5 = .ok (.getfield 15, 3) := by decide +kernel
theorem dX2_digitHere_8 : decode cX2_digitHere 8 = .ok (.if_icmp .ge 31, 3) := by decide +kernel
theorem dX2_digitHere_11 : decode cX2_digitHere 11 = .ok (.aload_n 0, 1) := by decide +kernel
theorem dX2_digitHere_12 : decode cX2_digitHere 12 = .ok (.getfield 11, 3) := by decide +kernel
theorem dX2_digitHere_15 : decode cX2_digitHere 15 = .ok (.aload_n 0, 1) := by decide +kernel
theorem dX2_digitHere_16 : decode cX2_digitHere 16 = .ok (.getfield 19, 3) := by decide +kernel
theorem dX2_digitHere_19 : decode cX2_digitHere 19 = .ok (.iaload, 1) := by decide +kernel
theorem dX2_digitHere_20 : decode cX2_digitHere 20 = .ok (.bipush 48, 2) := by decide +kernel
theorem dX2_digitHere_22 : decode cX2_digitHere 22 = .ok (.if_icmp .lt 17, 3) := by decide +kernel
theorem dX2_digitHere_25 : decode cX2_digitHere 25 = .ok (.aload_n 0, 1) := by decide +kernel
theorem dX2_digitHere_26 : decode cX2_digitHere 26 = .ok (.getfield 11, 3) := by decide +kernel
theorem dX2_digitHere_29 : decode cX2_digitHere 29 = .ok (.aload_n 0, 1) := by decide +kernel
theorem dX2_digitHere_30 : decode cX2_digitHere 30 = .ok (.getfield 19, 3) := by decide +kernel
theorem dX2_digitHere_33 : decode cX2_digitHere 33 = .ok (.iaload, 1) := by decide +kernel
theorem dX2_digitHere_34 : decode cX2_digitHere 34 = .ok (.bipush 57, 2) := by decide +kernel
theorem dX2_digitHere_36 : decode cX2_digitHere 36 = .ok (.if_icmp .le 5, 3) := by decide +kernel
theorem dX2_digitHere_39 : decode cX2_digitHere 39 = .ok (.iconst (-1), 1) := by decide +kernel
theorem dX2_digitHere_40 : decode cX2_digitHere 40 = .ok (.ireturn, 1) := by decide +kernel
theorem dX2_digitHere_41 : decode cX2_digitHere 41 = .ok (.aload_n 0, 1) := by decide +kernel
theorem dX2_digitHere_42 : decode cX2_digitHere 42 = .ok (.getfield 11, 3) := by decide +kernel
theorem dX2_digitHere_45 : decode cX2_digitHere 45 = .ok (.aload_n 0, 1) := by decide +kernel
theorem dX2_digitHere_46 : decode cX2_digitHere 46 = .ok (.getfield 19, 3) := by decide +kernel
theorem dX2_digitHere_49 : decode cX2_digitHere 49 = .ok (.iaload, 1) := by decide +kernel
theorem dX2_digitHere_50 : decode cX2_digitHere 50 = .ok (.bipush 48, 2) := by decide +kernel
theorem dX2_digitHere_52 : decode cX2_digitHere 52 = .ok (.isub, 1) := by decide +kernel
theorem dX2_digitHere_53 : decode cX2_digitHere 53 = .ok (.ireturn, 1) := by decide +kernel
theorem dX2_isHere_0 : decode cX2_isHere 0 = .ok (.aload_n 0, 1) := by decide +kernel
theorem dX2_isHere_1 : decode cX2_isHere 1 = .ok (.getfield 19, 3) := by decide +kernel
theorem dX2_isHere_4 : decode cX2_isHere 4 = .ok (.aload_n 0, 1) := by decide +kernel
theorem dX2_isHere_5 : decode cX2_isHere 5 = .ok (.getfield 15, 3) := by decide +kernel
theorem dX2_isHere_8 : decode cX2_isHere 8 = .ok (.if_icmp .ge 20, 3) := by decide +kernel
theorem dX2_isHere_11 : decode cX2_isHere 11 = .ok (.aload_n 0, 1) := by decide +kernel
theorem dX2_isHere_12 : decode cX2_isHere 12 = .ok (.getfield 11, 3) := by decide +kernel
theorem dX2_isHere_15 : decode cX2_isHere 15 = .ok (.aload_n 0, 1) := by decide +kernel
theorem dX2_isHere_16 : decode cX2_isHere 16 = .ok (.getfield 19, 3) := by decide +kernel
theorem dX2_isHere_19 : decode cX2_isHere 19 = .ok (.iaload, 1) := by decide +kernel
theorem dX2_isHere_20 : decode cX2_isHere 20 = .ok (.iload_n 1, 1) := by decide +kernel
theorem dX2_isHere_21 : decode cX2_isHere 21 = .ok (.if_icmp .ne 7, 3) := by decide +kernel
theorem dX2_isHere_24 : decode cX2_isHere 24 = .ok (.iconst 1, 1) := by decide +kernel
theorem dX2_isHere_25 : decode cX2_isHere 25 = .ok (.goto 4, 3) := by decide +kernel
theorem dX2_isHere_28 : decode cX2_isHere 28 = .ok (.iconst 0, 1) := by decide +kernel
theorem dX2_isHere_29 : decode cX2_isHere 29 = .ok (.ireturn, 1) := by decide +kernel
