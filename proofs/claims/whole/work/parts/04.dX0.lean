set_option maxRecDepth 20000 in
theorem ggX0_init_X0_within : GoodIn wsX0_init wsX0_within := goodIn_r _ [12, 13, 14, 15, 16, 17, 18, 19] (by decide +kernel) (by decide +kernel)
set_option maxRecDepth 20000 in
theorem gX0_init_X0_within : GoodIn wsX0_init (va_wsS RX0 9 yX0_within wsX0_within) := goodIn_app (goodIn_of _ (by decide +kernel)) ggX0_init_X0_within
theorem dX0_init_0 : decode cX0_init 0 = .ok (.aload_n 0, 1) := by decide +kernel
theorem dX0_init_1 : decode cX0_init 1 = .ok (.invokespecial 1, 3) := by decide +kernel
theorem dX0_init_4 : decode cX0_init 4 = .ok (.aload_n 0, 1) := by decide +kernel
theorem dX0_init_5 : decode cX0_init 5 = .ok (.iload_n 1, 1) := by decide +kernel
theorem dX0_init_6 : decode cX0_init 6 = .ok (.iconst 4, 1) := by decide +kernel
theorem dX0_init_7 : decode cX0_init 7 = .ok (.invokestatic 9, 3) := by decide +kernel
theorem dX0_init_10 : decode cX0_init 10 = .ok (.putfield 13, 3) := by decide +kernel
theorem dX0_init_13 : decode cX0_init 13 = .ok (.aload_n 0, 1) := by decide +kernel
theorem dX0_init_14 : decode cX0_init 14 = .ok (.aload_n 0, 1) := by decide +kernel
theorem dX0_init_15 : decode cX0_init 15 = .ok (.getfield 13, 3) := by decide +kernel
theorem dX0_init_18 : decode cX0_init 18 = .ok (.iload_n 2, 1) := by decide +kernel
theorem dX0_init_19 : decode cX0_init 19 = .ok (.iconst 4, 1) := by decide +kernel
theorem dX0_init_20 : decode cX0_init 20 = .ok (.invokestatic 9, 3) := by decide +kernel
theorem dX0_init_23 : decode cX0_init 23 = .ok (.imul, 1) := by decide +kernel
theorem dX0_init_24 : decode cX0_init 24 = .ok (.putfield 17, 3) := by decide +kernel
theorem dX0_init_27 : decode cX0_init 27 = .ok (.aload_n 0, 1) := by decide +kernel
theorem dX0_init_28 : decode cX0_init 28 = .ok (.iload_n 3, 1) := by decide +kernel
theorem dX0_init_29 : decode cX0_init 29 = .ok (.bipush 6, 2) := by decide +kernel
theorem dX0_init_31 : decode cX0_init 31 = .ok (.invokestatic 9, 3) := by decide +kernel
theorem dX0_init_34 : decode cX0_init 34 = .ok (.putfield 20, 3) := by decide +kernel
theorem dX0_init_37 : decode cX0_init 37 = .ok (.iconst 0, 1) := by decide +kernel
theorem dX0_init_38 : decode cX0_init 38 = .ok (.istore 4, 2) := by decide +kernel
theorem dX0_init_40 : decode cX0_init 40 = .ok (.iconst 0, 1) := by decide +kernel
theorem dX0_init_41 : decode cX0_init 41 = .ok (.istore 5, 2) := by decide +kernel
theorem dX0_init_43 : decode cX0_init 43 = .ok (.iload 5, 2) := by decide +kernel
theorem dX0_init_45 : decode cX0_init 45 = .ok (.aload_n 0, 1) := by decide +kernel
theorem dX0_init_46 : decode cX0_init 46 = .ok (.getfield 17, 3) := by decide +kernel
theorem dX0_init_49 : decode cX0_init 49 = .ok (.if_icmp .ge 24, 3) := by decide +kernel
theorem dX0_init_52 : decode cX0_init 52 = .ok (.iload 4, 2) := by decide +kernel
theorem dX0_init_54 : decode cX0_init 54 = .ok (.iconst 1, 1) := by decide +kernel
theorem dX0_init_55 : decode cX0_init 55 = .ok (.iload 5, 2) := by decide +kernel
theorem dX0_init_57 : decode cX0_init 57 = .ok (.ishl, 1) := by decide +kernel
theorem dX0_init_58 : decode cX0_init 58 = .ok (.ior, 1) := by decide +kernel
theorem dX0_init_59 : decode cX0_init 59 = .ok (.istore 4, 2) := by decide +kernel
theorem dX0_init_61 : decode cX0_init 61 = .ok (.iload 5, 2) := by decide +kernel
theorem dX0_init_63 : decode cX0_init 63 = .ok (.aload_n 0, 1) := by decide +kernel
theorem dX0_init_64 : decode cX0_init 64 = .ok (.getfield 13, 3) := by decide +kernel
theorem dX0_init_67 : decode cX0_init 67 = .ok (.iadd, 1) := by decide +kernel
theorem dX0_init_68 : decode cX0_init 68 = .ok (.istore 5, 2) := by decide +kernel
theorem dX0_init_70 : decode cX0_init 70 = .ok (.goto (-27), 3) := by decide +kernel
theorem dX0_init_73 : decode cX0_init 73 = .ok (.aload_n 0, 1) := by decide +kernel
theorem dX0_init_74 : decode cX0_init 74 = .ok (.iload 4, 2) := by decide +kernel
theorem dX0_init_76 : decode cX0_init 76 = .ok (.putfield 23, 3) := by decide +kernel
theorem dX0_init_79 : decode cX0_init 79 = .ok (.aload_n 0, 1) := by decide +kernel
theorem dX0_init_80 : decode cX0_init 80 = .ok (.iload 4, 2) := by decide +kernel
theorem dX0_init_82 : decode cX0_init 82 = .ok (.aload_n 0, 1) := by decide +kernel
theorem dX0_init_83 : decode cX0_init 83 = .ok (.getfield 13, 3) := by decide +kernel
theorem dX0_init_86 : decode cX0_init 86 = .ok (.iconst 1, 1) := by decide +kernel
theorem dX0_init_87 : decode cX0_init 87 = .ok (.isub, 1) := by decide +kernel
theorem dX0_init_88 : decode cX0_init 88 = .ok (.ishl, 1) := by decide +kernel
theorem dX0_init_89 : decode cX0_init 89 = .ok (.putfield 26, 3) := by decide +kernel
theorem dX0_init_92 : decode cX0_init 92 = .ok (.return_, 1) := by decide +kernel
theorem dX0_within_0 : decode cX0_within 0 = .ok (.iconst 1, 1) := by decide +kernel
theorem dX0_within_1 : decode cX0_within 1 = .ok (.iload_n 1, 1) := by decide +kernel
theorem dX0_within_2 : decode cX0_within 2 = .ok (.iload_n 0, 1) := by decide +kernel
theorem dX0_within_3 : decode cX0_within 3 = .ok (.invokestatic 29, 3) := by decide +kernel
theorem dX0_within_6 : decode cX0_within 6 = .ok (.invokestatic 34, 3) := by decide +kernel
theorem dX0_within_9 : decode cX0_within 9 = .ok (.ireturn, 1) := by decide +kernel
theorem dX0_cells_0 : decode cX0_cells 0 = .ok (.aload_n 0, 1) := by decide +kernel
theorem dX0_cells_1 : decode cX0_cells 1 = .ok (.getfield 17, 3) := by decide +kernel
theorem dX0_cells_4 : decode cX0_cells 4 = .ok (.ireturn, 1) := by decide +kernel
theorem dX0_symbols_0 : decode cX0_symbols 0 = .ok (.aload_n 0, 1) := by decide +kernel
theorem dX0_symbols_1 : decode cX0_symbols 1 = .ok (.getfield 20, 3) := by decide +kernel
theorem dX0_symbols_4 : decode cX0_symbols 4 = .ok (.ireturn, 1) := by decide +kernel
theorem dX0_allSymbols_0 : decode cX0_allSymbols 0 = .ok (.iconst 1, 1) := by decide +kernel
theorem dX0_allSymbols_1 : decode cX0_allSymbols 1 = .ok (.aload_n 0, 1) := by decide +kernel
theorem dX0_allSymbols_2 : decode cX0_allSymbols 2 = .ok (.getfield 20, 3) := by decide +kernel
theorem dX0_allSymbols_5 : decode cX0_allSymbols 5 = .ok (.ishl, 1) := by decide +kernel
theorem dX0_allSymbols_6 : decode cX0_allSymbols 6 = .ok (.iconst 1, 1) := by decide +kernel
theorem dX0_allSymbols_7 : decode cX0_allSymbols 7 = .ok (.isub, 1) := by decide +kernel
theorem dX0_allSymbols_8 : decode cX0_allSymbols 8 = .ok (.ireturn, 1) := by decide +kernel
theorem dX0_hasCell_0 : decode cX0_hasCell 0 = .ok (.iload_n 1, 1) := by decide +kernel
theorem dX0_hasCell_1 : decode cX0_hasCell 1 = .ok (.ifCond .lt 15, 3) := by decide +kernel
theorem dX0_hasCell_4 : decode cX0_hasCell 4 = .ok (.iload_n 1, 1) := by decide +kernel
theorem dX0_hasCell_5 : decode cX0_hasCell 5 = .ok (.aload_n 0, 1) := by decide +kernel
theorem dX0_hasCell_6 : decode cX0_hasCell 6 = .ok (.getfield 17, 3) := by decide +kernel
theorem dX0_hasCell_9 : decode cX0_hasCell 9 = .ok (.if_icmp .ge 7, 3) := by decide +kernel
theorem dX0_hasCell_12 : decode cX0_hasCell 12 = .ok (.iconst 1, 1) := by decide +kernel
theorem dX0_hasCell_13 : decode cX0_hasCell 13 = .ok (.goto 4, 3) := by decide +kernel
theorem dX0_hasCell_16 : decode cX0_hasCell 16 = .ok (.iconst 0, 1) := by decide +kernel
theorem dX0_hasCell_17 : decode cX0_hasCell 17 = .ok (.ireturn, 1) := by decide +kernel
theorem dX0_hasSymbol_0 : decode cX0_hasSymbol 0 = .ok (.iload_n 1, 1) := by decide +kernel
theorem dX0_hasSymbol_1 : decode cX0_hasSymbol 1 = .ok (.ifCond .lt 15, 3) := by decide +kernel
theorem dX0_hasSymbol_4 : decode cX0_hasSymbol 4 = .ok (.iload_n 1, 1) := by decide +kernel
theorem dX0_hasSymbol_5 : decode cX0_hasSymbol 5 = .ok (.aload_n 0, 1) := by decide +kernel
theorem dX0_hasSymbol_6 : decode cX0_hasSymbol 6 = .ok (.getfield 20, 3) := by decide +kernel
theorem dX0_hasSymbol_9 : decode cX0_hasSymbol 9 = .ok (.if_icmp .ge 7, 3) := by decide +kernel
theorem dX0_hasSymbol_12 : decode cX0_hasSymbol 12 = .ok (.iconst 1, 1) := by decide +kernel
theorem dX0_hasSymbol_13 : decode cX0_hasSymbol 13 = .ok (.goto 4, 3) := by decide +kernel
theorem dX0_hasSymbol_16 : decode cX0_hasSymbol 16 = .ok (.iconst 0, 1) := by decide +kernel
theorem dX0_hasSymbol_17 : decode cX0_hasSymbol 17 = .ok (.ireturn, 1) := by decide +kernel
set_option maxRecDepth 20000 in
theorem ggX0_hangTogether_X0_nextTo : GoodIn wsX0_hangTogether wsX0_nextTo := goodIn_r _ [6, 7, 8, 9, 10, 11, 12, 13, 14] (by decide +kernel) (by decide +kernel)
set_option maxRecDepth 20000 in
theorem gX0_hangTogether_X0_nextTo : GoodIn wsX0_hangTogether (wsV RX0 37 RX0 yX0_nextTo wsX0_nextTo) := goodIn_app (goodIn_of _ (by decide +kernel)) ggX0_hangTogether_X0_nextTo
theorem dX0_hangTogether_0 : decode cX0_hangTogether 0 = .ok (.iload_n 1, 1) := by decide +kernel
theorem dX0_hangTogether_1 : decode cX0_hangTogether 1 = .ok (.iload_n 1, 1) := by decide +kernel
theorem dX0_hangTogether_2 : decode cX0_hangTogether 2 = .ok (.ineg, 1) := by decide +kernel
theorem dX0_hangTogether_3 : decode cX0_hangTogether 3 = .ok (.iand, 1) := by decide +kernel
theorem dX0_hangTogether_4 : decode cX0_hangTogether 4 = .ok (.istore_n 2, 1) := by decide +kernel
theorem dX0_hangTogether_5 : decode cX0_hangTogether 5 = .ok (.iconst 0, 1) := by decide +kernel
theorem dX0_hangTogether_6 : decode cX0_hangTogether 6 = .ok (.istore_n 3, 1) := by decide +kernel
theorem dX0_hangTogether_7 : decode cX0_hangTogether 7 = .ok (.iload_n 3, 1) := by decide +kernel
theorem dX0_hangTogether_8 : decode cX0_hangTogether 8 = .ok (.aload_n 0, 1) := by decide +kernel
theorem dX0_hangTogether_9 : decode cX0_hangTogether 9 = .ok (.getfield 17, 3) := by decide +kernel
theorem dX0_hangTogether_12 : decode cX0_hangTogether 12 = .ok (.if_icmp .ge 24, 3) := by decide +kernel
theorem dX0_hangTogether_15 : decode cX0_hangTogether 15 = .ok (.iload_n 2, 1) := by decide +kernel
theorem dX0_hangTogether_16 : decode cX0_hangTogether 16 = .ok (.iload_n 1, 1) := by decide +kernel
theorem dX0_hangTogether_17 : decode cX0_hangTogether 17 = .ok (.if_icmp .eq 19, 3) := by decide +kernel
theorem dX0_hangTogether_20 : decode cX0_hangTogether 20 = .ok (.iload_n 2, 1) := by decide +kernel
theorem dX0_hangTogether_21 : decode cX0_hangTogether 21 = .ok (.aload_n 0, 1) := by decide +kernel
theorem dX0_hangTogether_22 : decode cX0_hangTogether 22 = .ok (.iload_n 2, 1) := by decide +kernel
theorem dX0_hangTogether_23 : decode cX0_hangTogether 23 = .ok (.invokevirtual 37, 3) := by decide +kernel
theorem dX0_hangTogether_26 : decode cX0_hangTogether 26 = .ok (.iload_n 1, 1) := by decide +kernel
theorem dX0_hangTogether_27 : decode cX0_hangTogether 27 = .ok (.iand, 1) := by decide +kernel
theorem dX0_hangTogether_28 : decode cX0_hangTogether 28 = .ok (.ior, 1) := by decide +kernel
theorem dX0_hangTogether_29 : decode cX0_hangTogether 29 = .ok (.istore_n 2, 1) := by decide +kernel
theorem dX0_hangTogether_30 : decode cX0_hangTogether 30 = .ok (.iinc 3 1, 3) := by decide +kernel
theorem dX0_hangTogether_33 : decode cX0_hangTogether 33 = .ok (.goto (-26), 3) := by decide +kernel
theorem dX0_hangTogether_36 : decode cX0_hangTogether 36 = .ok (.iload_n 2, 1) := by decide +kernel
theorem dX0_hangTogether_37 : decode cX0_hangTogether 37 = .ok (.iload_n 1, 1) := by decide +kernel
theorem dX0_hangTogether_38 : decode cX0_hangTogether 38 = .ok (.if_icmp .ne 7, 3) := by decide +kernel
theorem dX0_hangTogether_41 : decode cX0_hangTogether 41 = .ok (.iconst 1, 1) := by decide +kernel
theorem dX0_hangTogether_42 : decode cX0_hangTogether 42 = .ok (.goto 4, 3) := by decide +kernel
theorem dX0_hangTogether_45 : decode cX0_hangTogether 45 = .ok (.iconst 0, 1) := by decide +kernel
theorem dX0_hangTogether_46 : decode cX0_hangTogether 46 = .ok (.ireturn, 1) := by decide +kernel
theorem dX0_nextTo_0 : decode cX0_nextTo 0 = .ok (.iload_n 1, 1) := by decide +kernel
theorem dX0_nextTo_1 : decode cX0_nextTo 1 = .ok (.aload_n 0, 1) := by decide +kernel
theorem dX0_nextTo_2 : decode cX0_nextTo 2 = .ok (.getfield 13, 3) := by decide +kernel
theorem dX0_nextTo_5 : decode cX0_nextTo 5 = .ok (.ishr, 1) := by decide +kernel
theorem dX0_nextTo_6 : decode cX0_nextTo 6 = .ok (.iload_n 1, 1) := by decide +kernel
theorem dX0_nextTo_7 : decode cX0_nextTo 7 = .ok (.aload_n 0, 1) := by decide +kernel
theorem dX0_nextTo_8 : decode cX0_nextTo 8 = .ok (.getfield 13, 3) := by decide +kernel
theorem dX0_nextTo_11 : decode cX0_nextTo 11 = .ok (.ishl, 1) := by decide +kernel
theorem dX0_nextTo_12 : decode cX0_nextTo 12 = .ok (.ior, 1) := by decide +kernel
theorem dX0_nextTo_13 : decode cX0_nextTo 13 = .ok (.istore_n 2, 1) := by decide +kernel
theorem dX0_nextTo_14 : decode cX0_nextTo 14 = .ok (.iload_n 1, 1) := by decide +kernel
theorem dX0_nextTo_15 : decode cX0_nextTo 15 = .ok (.aload_n 0, 1) := by decide +kernel
theorem dX0_nextTo_16 : decode cX0_nextTo 16 = .ok (.getfield 23, 3) := by decide +kernel
theorem dX0_nextTo_19 : decode cX0_nextTo 19 = .ok (.iconst (-1), 1) := by decide +kernel
theorem dX0_nextTo_20 : decode cX0_nextTo 20 = .ok (.ixor, 1) := by decide +kernel
theorem dX0_nextTo_21 : decode cX0_nextTo 21 = .ok (.iand, 1) := by decide +kernel
theorem dX0_nextTo_22 : decode cX0_nextTo 22 = .ok (.iconst 1, 1) := by decide +kernel
theorem dX0_nextTo_23 : decode cX0_nextTo 23 = .ok (.ishr, 1) := by decide +kernel
theorem dX0_nextTo_24 : decode cX0_nextTo 24 = .ok (.istore_n 3, 1) := by decide +kernel
theorem dX0_nextTo_25 : decode cX0_nextTo 25 = .ok (.iload_n 1, 1) := by decide +kernel
theorem dX0_nextTo_26 : decode cX0_nextTo 26 = .ok (.aload_n 0, 1) := by decide +kernel
theorem dX0_nextTo_27 : decode cX0_nextTo 27 = .ok (.getfield 26, 3) := by decide +kernel
theorem dX0_nextTo_30 : decode cX0_nextTo 30 = .ok (.iconst (-1), 1) := by decide +kernel
theorem dX0_nextTo_31 : decode cX0_nextTo 31 = .ok (.ixor, 1) := by decide +kernel
theorem dX0_nextTo_32 : decode cX0_nextTo 32 = .ok (.iand, 1) := by decide +kernel
theorem dX0_nextTo_33 : decode cX0_nextTo 33 = .ok (.iconst 1, 1) := by decide +kernel
theorem dX0_nextTo_34 : decode cX0_nextTo 34 = .ok (.ishl, 1) := by decide +kernel
theorem dX0_nextTo_35 : decode cX0_nextTo 35 = .ok (.istore 4, 2) := by decide +kernel
theorem dX0_nextTo_37 : decode cX0_nextTo 37 = .ok (.iload_n 2, 1) := by decide +kernel
theorem dX0_nextTo_38 : decode cX0_nextTo 38 = .ok (.iload_n 3, 1) := by decide +kernel
theorem dX0_nextTo_39 : decode cX0_nextTo 39 = .ok (.ior, 1) := by decide +kernel
theorem dX0_nextTo_40 : decode cX0_nextTo 40 = .ok (.iload 4, 2) := by decide +kernel
theorem dX0_nextTo_42 : decode cX0_nextTo 42 = .ok (.ior, 1) := by decide +kernel
theorem dX0_nextTo_43 : decode cX0_nextTo 43 = .ok (.ireturn, 1) := by decide +kernel
