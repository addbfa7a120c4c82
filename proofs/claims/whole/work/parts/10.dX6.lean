set_option maxRecDepth 20000 in
theorem ggX6_init_X6_held : GoodIn wsX6_init wsX6_held := goodIn_r _ [24] (by decide +kernel) (by decide +kernel)
set_option maxRecDepth 20000 in
theorem gX6_init_X6_held : GoodIn wsX6_init (va_wsS RX6 49 yX6_held wsX6_held) := goodIn_app (goodIn_of _ (by decide +kernel)) ggX6_init_X6_held
theorem dX6_init_0 : decode cX6_init 0 = .ok (.aload_n 0, 1) := by decide +kernel
theorem dX6_init_1 : decode cX6_init 1 = .ok (.invokespecial 1, 3) := by decide +kernel
theorem dX6_init_4 : decode cX6_init 4 = .ok (.aload_n 0, 1) := by decide +kernel
theorem dX6_init_5 : decode cX6_init 5 = .ok (.bipush 30, 2) := by decide +kernel
theorem dX6_init_7 : decode cX6_init 7 = .ok (.newarray .int, 2) := by decide +kernel
theorem dX6_init_9 : decode cX6_init 9 = .ok (.putfield 7, 3) := by decide +kernel
theorem dX6_init_12 : decode cX6_init 12 = .ok (.aload_n 0, 1) := by decide +kernel
theorem dX6_init_13 : decode cX6_init 13 = .ok (.bipush 30, 2) := by decide +kernel
theorem dX6_init_15 : decode cX6_init 15 = .ok (.newarray .int, 2) := by decide +kernel
theorem dX6_init_17 : decode cX6_init 17 = .ok (.putfield 13, 3) := by decide +kernel
theorem dX6_init_20 : decode cX6_init 20 = .ok (.aload_n 0, 1) := by decide +kernel
theorem dX6_init_21 : decode cX6_init 21 = .ok (.bipush 30, 2) := by decide +kernel
theorem dX6_init_23 : decode cX6_init 23 = .ok (.newarray .int, 2) := by decide +kernel
theorem dX6_init_25 : decode cX6_init 25 = .ok (.putfield 16, 3) := by decide +kernel
theorem dX6_init_28 : decode cX6_init 28 = .ok (.aload_n 0, 1) := by decide +kernel
theorem dX6_init_29 : decode cX6_init 29 = .ok (.sipush 270, 3) := by decide +kernel
theorem dX6_init_32 : decode cX6_init 32 = .ok (.newarray .int, 2) := by decide +kernel
theorem dX6_init_34 : decode cX6_init 34 = .ok (.putfield 19, 3) := by decide +kernel
theorem dX6_init_37 : decode cX6_init 37 = .ok (.aload_n 0, 1) := by decide +kernel
theorem dX6_init_38 : decode cX6_init 38 = .ok (.bipush 16, 2) := by decide +kernel
theorem dX6_init_40 : decode cX6_init 40 = .ok (.newarray .int, 2) := by decide +kernel
theorem dX6_init_42 : decode cX6_init 42 = .ok (.putfield 22, 3) := by decide +kernel
theorem dX6_init_45 : decode cX6_init 45 = .ok (.aload_n 0, 1) := by decide +kernel
theorem dX6_init_46 : decode cX6_init 46 = .ok (.bipush 120, 2) := by decide +kernel
theorem dX6_init_48 : decode cX6_init 48 = .ok (.newarray .int, 2) := by decide +kernel
theorem dX6_init_50 : decode cX6_init 50 = .ok (.putfield 25, 3) := by decide +kernel
theorem dX6_init_53 : decode cX6_init 53 = .ok (.aload_n 0, 1) := by decide +kernel
theorem dX6_init_54 : decode cX6_init 54 = .ok (.bipush 120, 2) := by decide +kernel
theorem dX6_init_56 : decode cX6_init 56 = .ok (.newarray .int, 2) := by decide +kernel
theorem dX6_init_58 : decode cX6_init 58 = .ok (.putfield 28, 3) := by decide +kernel
theorem dX6_init_61 : decode cX6_init 61 = .ok (.aload_n 0, 1) := by decide +kernel
theorem dX6_init_62 : decode cX6_init 62 = .ok (.bipush 120, 2) := by decide +kernel
theorem dX6_init_64 : decode cX6_init 64 = .ok (.newarray .int, 2) := by decide +kernel
theorem dX6_init_66 : decode cX6_init 66 = .ok (.putfield 31, 3) := by decide +kernel
theorem dX6_init_69 : decode cX6_init 69 = .ok (.aload_n 0, 1) := by decide +kernel
theorem dX6_init_70 : decode cX6_init 70 = .ok (.sipush 1920, 3) := by decide +kernel
theorem dX6_init_73 : decode cX6_init 73 = .ok (.newarray .int, 2) := by decide +kernel
theorem dX6_init_75 : decode cX6_init 75 = .ok (.putfield 34, 3) := by decide +kernel
theorem dX6_init_78 : decode cX6_init 78 = .ok (.aload_n 0, 1) := by decide +kernel
theorem dX6_init_79 : decode cX6_init 79 = .ok (.bipush 16, 2) := by decide +kernel
theorem dX6_init_81 : decode cX6_init 81 = .ok (.newarray .int, 2) := by decide +kernel
theorem dX6_init_83 : decode cX6_init 83 = .ok (.putfield 37, 3) := by decide +kernel
theorem dX6_init_86 : decode cX6_init 86 = .ok (.aload_n 0, 1) := by decide +kernel
theorem dX6_init_87 : decode cX6_init 87 = .ok (.bipush 16, 2) := by decide +kernel
theorem dX6_init_89 : decode cX6_init 89 = .ok (.newarray .int, 2) := by decide +kernel
theorem dX6_init_91 : decode cX6_init 91 = .ok (.putfield 40, 3) := by decide +kernel
theorem dX6_init_94 : decode cX6_init 94 = .ok (.aload_n 0, 1) := by decide +kernel
theorem dX6_init_95 : decode cX6_init 95 = .ok (.bipush 9, 2) := by decide +kernel
theorem dX6_init_97 : decode cX6_init 97 = .ok (.newarray .int, 2) := by decide +kernel
theorem dX6_init_99 : decode cX6_init 99 = .ok (.putfield 43, 3) := by decide +kernel
theorem dX6_init_102 : decode cX6_init 102 = .ok (.aload_n 0, 1) := by decide +kernel
theorem dX6_init_103 : decode cX6_init 103 = .ok (.sipush 300, 3) := by decide +kernel
theorem dX6_init_106 : decode cX6_init 106 = .ok (.newarray .int, 2) := by decide +kernel
theorem dX6_init_108 : decode cX6_init 108 = .ok (.putfield 46, 3) := by decide +kernel
theorem dX6_init_111 : decode cX6_init 111 = .ok (.aload_n 0, 1) := by decide +kernel
theorem dX6_init_112 : decode cX6_init 112 = .ok (.iload_n 1, 1) := by decide +kernel
theorem dX6_init_113 : decode cX6_init 113 = .ok (.iconst 4, 1) := by decide +kernel
theorem dX6_init_114 : decode cX6_init 114 = .ok (.invokestatic 49, 3) := by decide +kernel
theorem dX6_init_117 : decode cX6_init 117 = .ok (.putfield 53, 3) := by decide +kernel
theorem dX6_init_120 : decode cX6_init 120 = .ok (.aload_n 0, 1) := by decide +kernel
theorem dX6_init_121 : decode cX6_init 121 = .ok (.iload_n 2, 1) := by decide +kernel
theorem dX6_init_122 : decode cX6_init 122 = .ok (.iconst 4, 1) := by decide +kernel
theorem dX6_init_123 : decode cX6_init 123 = .ok (.invokestatic 49, 3) := by decide +kernel
theorem dX6_init_126 : decode cX6_init 126 = .ok (.putfield 57, 3) := by decide +kernel
theorem dX6_init_129 : decode cX6_init 129 = .ok (.aload_n 0, 1) := by decide +kernel
theorem dX6_init_130 : decode cX6_init 130 = .ok (.iload_n 3, 1) := by decide +kernel
theorem dX6_init_131 : decode cX6_init 131 = .ok (.bipush 6, 2) := by decide +kernel
theorem dX6_init_133 : decode cX6_init 133 = .ok (.invokestatic 49, 3) := by decide +kernel
theorem dX6_init_136 : decode cX6_init 136 = .ok (.putfield 60, 3) := by decide +kernel
theorem dX6_init_139 : decode cX6_init 139 = .ok (.iconst 0, 1) := by decide +kernel
theorem dX6_init_140 : decode cX6_init 140 = .ok (.istore 4, 2) := by decide +kernel
theorem dX6_init_142 : decode cX6_init 142 = .ok (.iload 4, 2) := by decide +kernel
theorem dX6_init_144 : decode cX6_init 144 = .ok (.bipush 16, 2) := by decide +kernel
theorem dX6_init_146 : decode cX6_init 146 = .ok (.if_icmp .ge 17, 3) := by decide +kernel
theorem dX6_init_149 : decode cX6_init 149 = .ok (.aload_n 0, 1) := by decide +kernel
theorem dX6_init_150 : decode cX6_init 150 = .ok (.getfield 22, 3) := by decide +kernel
theorem dX6_init_153 : decode cX6_init 153 = .ok (.iload 4, 2) := by decide +kernel
theorem dX6_init_155 : decode cX6_init 155 = .ok (.iconst (-1), 1) := by decide +kernel
theorem dX6_init_156 : decode cX6_init 156 = .ok (.iastore, 1) := by decide +kernel
theorem dX6_init_157 : decode cX6_init 157 = .ok (.iinc 4 1, 3) := by decide +kernel
theorem dX6_init_160 : decode cX6_init 160 = .ok (.goto (-18), 3) := by decide +kernel
theorem dX6_init_163 : decode cX6_init 163 = .ok (.return_, 1) := by decide +kernel
theorem dX6_thrown_0 : decode cX6_thrown 0 = .ok (.aload_n 0, 1) := by decide +kernel
theorem dX6_thrown_1 : decode cX6_thrown 1 = .ok (.getfield 63, 3) := by decide +kernel
theorem dX6_thrown_4 : decode cX6_thrown 4 = .ok (.ireturn, 1) := by decide +kernel
theorem dX6_throwsIf_0 : decode cX6_throwsIf 0 = .ok (.aload_n 0, 1) := by decide +kernel
theorem dX6_throwsIf_1 : decode cX6_throwsIf 1 = .ok (.iload_n 2, 1) := by decide +kernel
theorem dX6_throwsIf_2 : decode cX6_throwsIf 2 = .ok (.ifCond .eq 7, 3) := by decide +kernel
theorem dX6_throwsIf_5 : decode cX6_throwsIf 5 = .ok (.iload_n 1, 1) := by decide +kernel
theorem dX6_throwsIf_6 : decode cX6_throwsIf 6 = .ok (.goto 4, 3) := by decide +kernel
theorem dX6_throwsIf_9 : decode cX6_throwsIf 9 = .ok (.iconst 0, 1) := by decide +kernel
theorem dX6_throwsIf_10 : decode cX6_throwsIf 10 = .ok (.putfield 63, 3) := by decide +kernel
theorem dX6_throwsIf_13 : decode cX6_throwsIf 13 = .ok (.iload_n 2, 1) := by decide +kernel
theorem dX6_throwsIf_14 : decode cX6_throwsIf 14 = .ok (.ireturn, 1) := by decide +kernel
theorem dX6_held_0 : decode cX6_held 0 = .ok (.iload_n 0, 1) := by decide +kernel
theorem dX6_held_1 : decode cX6_held 1 = .ok (.iconst 1, 1) := by decide +kernel
theorem dX6_held_2 : decode cX6_held 2 = .ok (.if_icmp .ge 7, 3) := by decide +kernel
theorem dX6_held_5 : decode cX6_held 5 = .ok (.iconst 1, 1) := by decide +kernel
theorem dX6_held_6 : decode cX6_held 6 = .ok (.goto 13, 3) := by decide +kernel
theorem dX6_held_9 : decode cX6_held 9 = .ok (.iload_n 0, 1) := by decide +kernel
theorem dX6_held_10 : decode cX6_held 10 = .ok (.iload_n 1, 1) := by decide +kernel
theorem dX6_held_11 : decode cX6_held 11 = .ok (.if_icmp .le 7, 3) := by decide +kernel
theorem dX6_held_14 : decode cX6_held 14 = .ok (.iload_n 1, 1) := by decide +kernel
theorem dX6_held_15 : decode cX6_held 15 = .ok (.goto 4, 3) := by decide +kernel
theorem dX6_held_18 : decode cX6_held 18 = .ok (.iload_n 0, 1) := by decide +kernel
theorem dX6_held_19 : decode cX6_held 19 = .ok (.ireturn, 1) := by decide +kernel
theorem dX6_cells_0 : decode cX6_cells 0 = .ok (.aload_n 0, 1) := by decide +kernel
theorem dX6_cells_1 : decode cX6_cells 1 = .ok (.getfield 53, 3) := by decide +kernel
theorem dX6_cells_4 : decode cX6_cells 4 = .ok (.aload_n 0, 1) := by decide +kernel
theorem dX6_cells_5 : decode cX6_cells 5 = .ok (.getfield 57, 3) := by decide +kernel
theorem dX6_cells_8 : decode cX6_cells 8 = .ok (.imul, 1) := by decide +kernel
theorem dX6_cells_9 : decode cX6_cells 9 = .ok (.ireturn, 1) := by decide +kernel
set_option maxRecDepth 20000 in
theorem ggX6_isCell_X6_cells : GoodIn wsX6_isCell wsX6_cells := goodIn_r _ [5, 6, 7, 8, 9, 10, 11, 12, 13, 14, 15, 16, 17, 18, 19, 20, 21, 22, 23, 24, 25, 26, 27, 28, 29, 30] (by decide +kernel) (by decide +kernel)
set_option maxRecDepth 20000 in
theorem gX6_isCell_X6_cells : GoodIn wsX6_isCell (wsV RX6 66 RX6 yX6_cells wsX6_cells) := goodIn_app (goodIn_of _ (by decide +kernel)) ggX6_isCell_X6_cells
theorem dX6_isCell_0 : decode cX6_isCell 0 = .ok (.iload_n 1, 1) := by decide +kernel
theorem dX6_isCell_1 : decode cX6_isCell 1 = .ok (.ifCond .lt 15, 3) := by decide +kernel
theorem dX6_isCell_4 : decode cX6_isCell 4 = .ok (.iload_n 1, 1) := by decide +kernel
theorem dX6_isCell_5 : decode cX6_isCell 5 = .ok (.aload_n 0, 1) := by decide +kernel
theorem dX6_isCell_6 : decode cX6_isCell 6 = .ok (.invokevirtual 66, 3) := by decide +kernel
theorem dX6_isCell_9 : decode cX6_isCell 9 = .ok (.if_icmp .ge 7, 3) := by decide +kernel
theorem dX6_isCell_12 : decode cX6_isCell 12 = .ok (.iconst 1, 1) := by decide +kernel
theorem dX6_isCell_13 : decode cX6_isCell 13 = .ok (.goto 4, 3) := by decide +kernel
theorem dX6_isCell_16 : decode cX6_isCell 16 = .ok (.iconst 0, 1) := by decide +kernel
theorem dX6_isCell_17 : decode cX6_isCell 17 = .ok (.ireturn, 1) := by decide +kernel
theorem dX6_isSymbol_0 : decode cX6_isSymbol 0 = .ok (.iload_n 1, 1) := by decide +kernel
theorem dX6_isSymbol_1 : decode cX6_isSymbol 1 = .ok (.ifCond .lt 15, 3) := by decide +kernel
theorem dX6_isSymbol_4 : decode cX6_isSymbol 4 = .ok (.iload_n 1, 1) := by decide +kernel
theorem dX6_isSymbol_5 : decode cX6_isSymbol 5 = .ok (.aload_n 0, 1) := by decide +kernel
theorem dX6_isSymbol_6 : decode cX6_isSymbol 6 = .ok (.getfield 60, 3) := by decide +kernel
theorem dX6_isSymbol_9 : decode cX6_isSymbol 9 = .ok (.if_icmp .ge 7, 3) := by decide +kernel
theorem dX6_isSymbol_12 : decode cX6_isSymbol 12 = .ok (.iconst 1, 1) := by decide +kernel
theorem dX6_isSymbol_13 : decode cX6_isSymbol 13 = .ok (.goto 4, 3) := by decide +kernel
theorem dX6_isSymbol_16 : decode cX6_isSymbol 16 = .ok (.iconst 0, 1) := by decide +kernel
theorem dX6_isSymbol_17 : decode cX6_isSymbol 17 = .ok (.ireturn, 1) := by decide +kernel
theorem dX6_rule_0 : decode cX6_rule 0 = .ok (.aload_n 0, 1) := by decide +kernel
theorem dX6_rule_1 : decode cX6_rule 1 = .ok (.iconst 0, 1) := by decide +kernel
theorem dX6_rule_2 : decode cX6_rule 2 = .ok (.putfield 63, 3) := by decide +kernel
theorem dX6_rule_5 : decode cX6_rule 5 = .ok (.iload_n 1, 1) := by decide +kernel
theorem dX6_rule_6 : decode cX6_rule 6 = .ok (.ifCond .lt 27, 3) := by decide +kernel
theorem dX6_rule_9 : decode cX6_rule 9 = .ok (.iload_n 1, 1) := by decide +kernel
theorem dX6_rule_10 : decode cX6_rule 10 = .ok (.iconst 4, 1) := by decide +kernel
theorem dX6_rule_11 : decode cX6_rule 11 = .ok (.if_icmp .gt 22, 3) := by decide +kernel
theorem dX6_rule_14 : decode cX6_rule 14 = .ok (.iload_n 2, 1) := by decide +kernel
theorem dX6_rule_15 : decode cX6_rule 15 = .ok (.ifCond .lt 18, 3) := by decide +kernel
theorem dX6_rule_18 : decode cX6_rule 18 = .ok (.iload_n 2, 1) := by decide +kernel
theorem dX6_rule_19 : decode cX6_rule 19 = .ok (.bipush 99, 2) := by decide +kernel
theorem dX6_rule_21 : decode cX6_rule 21 = .ok (.if_icmp .gt 12, 3) := by decide +kernel
theorem dX6_rule_24 : decode cX6_rule 24 = .ok (.aload_n 0, 1) := by decide +kernel
theorem dX6_rule_25 : decode cX6_rule 25 = .ok (.getfield 70, 3) := by decide +kernel
theorem dX6_rule_28 : decode cX6_rule 28 = .ok (.bipush 30, 2) := by decide +kernel
theorem dX6_rule_30 : decode cX6_rule 30 = .ok (.if_icmp .ne 5, 3) := by decide +kernel
theorem dX6_rule_33 : decode cX6_rule 33 = .ok (.iconst (-1), 1) := by decide +kernel
theorem dX6_rule_34 : decode cX6_rule 34 = .ok (.ireturn, 1) := by decide +kernel
theorem dX6_rule_35 : decode cX6_rule 35 = .ok (.aload_n 0, 1) := by decide +kernel
theorem dX6_rule_36 : decode cX6_rule 36 = .ok (.getfield 7, 3) := by decide +kernel
theorem dX6_rule_39 : decode cX6_rule 39 = .ok (.aload_n 0, 1) := by decide +kernel
theorem dX6_rule_40 : decode cX6_rule 40 = .ok (.getfield 70, 3) := by decide +kernel
theorem dX6_rule_43 : decode cX6_rule 43 = .ok (.iload_n 1, 1) := by decide +kernel
theorem dX6_rule_44 : decode cX6_rule 44 = .ok (.iastore, 1) := by decide +kernel
theorem dX6_rule_45 : decode cX6_rule 45 = .ok (.aload_n 0, 1) := by decide +kernel
theorem dX6_rule_46 : decode cX6_rule 46 = .ok (.getfield 13, 3) := by decide +kernel
theorem dX6_rule_49 : decode cX6_rule 49 = .ok (.aload_n 0, 1) := by decide +kernel
theorem dX6_rule_50 : decode cX6_rule 50 = .ok (.getfield 70, 3) := by decide +kernel
theorem dX6_rule_53 : decode cX6_rule 53 = .ok (.iload_n 2, 1) := by decide +kernel
theorem dX6_rule_54 : decode cX6_rule 54 = .ok (.iastore, 1) := by decide +kernel
theorem dX6_rule_55 : decode cX6_rule 55 = .ok (.aload_n 0, 1) := by decide +kernel
theorem dX6_rule_56 : decode cX6_rule 56 = .ok (.getfield 16, 3) := by decide +kernel
theorem dX6_rule_59 : decode cX6_rule 59 = .ok (.aload_n 0, 1) := by decide +kernel
theorem dX6_rule_60 : decode cX6_rule 60 = .ok (.getfield 70, 3) := by decide +kernel
theorem dX6_rule_63 : decode cX6_rule 63 = .ok (.iconst 0, 1) := by decide +kernel
theorem dX6_rule_64 : decode cX6_rule 64 = .ok (.iastore, 1) := by decide +kernel
theorem dX6_rule_65 : decode cX6_rule 65 = .ok (.aload_n 0, 1) := by decide +kernel
theorem dX6_rule_66 : decode cX6_rule 66 = .ok (.dup, 1) := by decide +kernel
theorem dX6_rule_67 : decode cX6_rule 67 = .ok (.getfield 70, 3) := by decide +kernel
theorem dX6_rule_70 : decode cX6_rule 70 = .ok (.iconst 1, 1) := by decide +kernel
theorem dX6_rule_71 : decode cX6_rule 71 = .ok (.iadd, 1) := by decide +kernel
theorem dX6_rule_72 : decode cX6_rule 72 = .ok (.putfield 70, 3) := by decide +kernel
theorem dX6_rule_75 : decode cX6_rule 75 = .ok (.aload_n 0, 1) := by decide +kernel
theorem dX6_rule_76 : decode cX6_rule 76 = .ok (.getfield 70, 3) := by decide +kernel
theorem dX6_rule_79 : decode cX6_rule 79 = .ok (.iconst 1, 1) := by decide +kernel
theorem dX6_rule_80 : decode cX6_rule 80 = .ok (.isub, 1) := by decide +kernel
theorem dX6_rule_81 : decode cX6_rule 81 = .ok (.ireturn, 1) := by decide +kernel
theorem dX6_member_0 : decode cX6_member 0 = .ok (.aload_n 0, 1) := by decide +kernel
theorem dX6_member_1 : decode cX6_member 1 = .ok (.getfield 19, 3) := by decide +kernel
theorem dX6_member_4 : decode cX6_member 4 = .ok (.bipush 9, 2) := by decide +kernel
theorem dX6_member_6 : decode cX6_member 6 = .ok (.iload_n 1, 1) := by decide +kernel
theorem dX6_member_7 : decode cX6_member 7 = .ok (.imul, 1) := by decide +kernel
theorem dX6_member_8 : decode cX6_member 8 = .ok (.iload_n 2, 1) := by decide +kernel
theorem dX6_member_9 : decode cX6_member 9 = .ok (.iadd, 1) := by decide +kernel
theorem dX6_member_10 : decode cX6_member 10 = .ok (.iaload, 1) := by decide +kernel
theorem dX6_member_11 : decode cX6_member 11 = .ok (.ireturn, 1) := by decide +kernel
set_option maxRecDepth 20000 in
theorem ggX6_seat_X6_member : GoodIn wsX6_seat wsX6_member := goodIn_r _ [6, 7, 8, 9, 10, 11, 12, 13, 14, 15, 16, 17, 18, 19, 20, 21, 22, 23, 24, 25, 26, 27, 28, 29, 30] (by decide +kernel) (by decide +kernel)
set_option maxRecDepth 20000 in
theorem gX6_seat_X6_member : GoodIn wsX6_seat (wsV RX6 73 RX6 yX6_member wsX6_member) := goodIn_app (goodIn_of _ (by decide +kernel)) ggX6_seat_X6_member
theorem dX6_seat_0 : decode cX6_seat 0 = .ok (.iconst 0, 1) := by decide +kernel
theorem dX6_seat_1 : decode cX6_seat 1 = .ok (.istore_n 3, 1) := by decide +kernel
theorem dX6_seat_2 : decode cX6_seat 2 = .ok (.iload_n 3, 1) := by decide +kernel
theorem dX6_seat_3 : decode cX6_seat 3 = .ok (.aload_n 0, 1) := by decide +kernel
theorem dX6_seat_4 : decode cX6_seat 4 = .ok (.getfield 16, 3) := by decide +kernel
theorem dX6_seat_7 : decode cX6_seat 7 = .ok (.iload_n 1, 1) := by decide +kernel
theorem dX6_seat_8 : decode cX6_seat 8 = .ok (.iaload, 1) := by decide +kernel
theorem dX6_seat_9 : decode cX6_seat 9 = .ok (.if_icmp .ge 21, 3) := by decide +kernel
theorem dX6_seat_12 : decode cX6_seat 12 = .ok (.aload_n 0, 1) := by decide +kernel
theorem dX6_seat_13 : decode cX6_seat 13 = .ok (.iload_n 1, 1) := by decide +kernel
theorem dX6_seat_14 : decode cX6_seat 14 = .ok (.iload_n 3, 1) := by decide +kernel
theorem dX6_seat_15 : decode cX6_seat 15 = .ok (.invokevirtual 73, 3) := by decide +kernel
theorem dX6_seat_18 : decode cX6_seat 18 = .ok (.iload_n 2, 1) := by decide +kernel
theorem dX6_seat_19 : decode cX6_seat 19 = .ok (.if_icmp .ne 5, 3) := by decide +kernel
theorem dX6_seat_22 : decode cX6_seat 22 = .ok (.iload_n 3, 1) := by decide +kernel
theorem dX6_seat_23 : decode cX6_seat 23 = .ok (.ireturn, 1) := by decide +kernel
theorem dX6_seat_24 : decode cX6_seat 24 = .ok (.iinc 3 1, 3) := by decide +kernel
theorem dX6_seat_27 : decode cX6_seat 27 = .ok (.goto (-25), 3) := by decide +kernel
theorem dX6_seat_30 : decode cX6_seat 30 = .ok (.iconst (-1), 1) := by decide +kernel
theorem dX6_seat_31 : decode cX6_seat 31 = .ok (.ireturn, 1) := by decide +kernel
set_option maxRecDepth 20000 in
theorem ggX6_into_X6_isCell : GoodIn wsX6_into wsX6_isCell := goodIn_r _ [8, 9, 10, 11, 7, 12, 13, 14, 28, 29, 30, 31, 32, 33, 34, 35, 36, 37, 38, 39, 40, 41, 42, 43, 44, 45, 46, 47, 48, 49, 50] (by decide +kernel) (by decide +kernel)
set_option maxRecDepth 20000 in
theorem gX6_into_X6_isCell : GoodIn wsX6_into (wsV RX6 76 RX6 yX6_isCell wsX6_isCell) := goodIn_app (goodIn_of _ (by decide +kernel)) ggX6_into_X6_isCell
set_option maxRecDepth 20000 in
theorem ggX6_into_X6_throwsIf : GoodIn wsX6_into wsX6_throwsIf := goodIn_r _ [18, 19, 28, 29, 30, 31, 32, 33, 34, 35, 36, 37, 38, 39, 40, 41, 42, 43, 44, 45, 46, 47, 48, 49, 50] (by decide +kernel) (by decide +kernel)
set_option maxRecDepth 20000 in
theorem gX6_into_X6_throwsIf : GoodIn wsX6_into (wsV RX6 80 RX6 yX6_throwsIf wsX6_throwsIf) := goodIn_app (goodIn_of _ (by decide +kernel)) ggX6_into_X6_throwsIf
set_option maxRecDepth 20000 in
theorem ggX6_into_X6_seat : GoodIn wsX6_into wsX6_seat := goodIn_r _ [23, 2, 24, 25, 26, 7, 27, 3, 28, 29, 30, 31, 32, 33, 34, 35, 36, 37, 38, 39, 40, 41, 42, 43, 44, 45, 46, 47, 48, 49, 50] (by decide +kernel) (by decide +kernel)
set_option maxRecDepth 20000 in
theorem gX6_into_X6_seat : GoodIn wsX6_into (wsV RX6 84 RX6 yX6_seat wsX6_seat) := goodIn_app (goodIn_of _ (by decide +kernel)) ggX6_into_X6_seat
theorem dX6_into_0 : decode cX6_into 0 = .ok (.aload_n 0, 1) := by decide +kernel
theorem dX6_into_1 : decode cX6_into 1 = .ok (.iconst 1, 1) := by decide +kernel
theorem dX6_into_2 : decode cX6_into 2 = .ok (.iload_n 1, 1) := by decide +kernel
theorem dX6_into_3 : decode cX6_into 3 = .ok (.ifCond .lt 19, 3) := by decide +kernel
theorem dX6_into_6 : decode cX6_into 6 = .ok (.iload_n 1, 1) := by decide +kernel
theorem dX6_into_7 : decode cX6_into 7 = .ok (.aload_n 0, 1) := by decide +kernel
theorem dX6_into_8 : decode cX6_into 8 = .ok (.getfield 70, 3) := by decide +kernel
theorem dX6_into_11 : decode cX6_into 11 = .ok (.if_icmp .ge 11, 3) := by decide +kernel
theorem dX6_into_14 : decode cX6_into 14 = .ok (.aload_n 0, 1) := by decide +kernel
theorem dX6_into_15 : decode cX6_into 15 = .ok (.iload_n 2, 1) := by decide +kernel
theorem dX6_into_16 : decode cX6_into 16 = .ok (.invokevirtual 76, 3) := by decide +kernel
theorem dX6_into_19 : decode cX6_into 19 = .ok (.ifCond .ne 7, 3) := by decide +kernel
theorem dX6_into_22 : decode cX6_into 22 = .ok (.iconst 1, 1) := by decide +kernel
theorem dX6_into_23 : decode cX6_into 23 = .ok (.goto 4, 3) := by decide +kernel
theorem dX6_into_26 : decode cX6_into 26 = .ok (.iconst 0, 1) := by decide +kernel
theorem dX6_into_27 : decode cX6_into 27 = .ok (.invokevirtual 80, 3) := by decide +kernel
theorem dX6_into_30 : decode cX6_into 30 = .ok (.ifCond .ne 23, 3) := by decide +kernel
theorem dX6_into_33 : decode cX6_into 33 = .ok (.aload_n 0, 1) := by decide +kernel
theorem dX6_into_34 : decode cX6_into 34 = .ok (.iload_n 1, 1) := by decide +kernel
theorem dX6_into_35 : decode cX6_into 35 = .ok (.iload_n 2, 1) := by decide +kernel
theorem dX6_into_36 : decode cX6_into 36 = .ok (.invokevirtual 84, 3) := by decide +kernel
theorem dX6_into_39 : decode cX6_into 39 = .ok (.ifCond .ge 14, 3) := by decide +kernel
theorem dX6_into_42 : decode cX6_into 42 = .ok (.aload_n 0, 1) := by decide +kernel
theorem dX6_into_43 : decode cX6_into 43 = .ok (.getfield 16, 3) := by decide +kernel
theorem dX6_into_46 : decode cX6_into 46 = .ok (.iload_n 1, 1) := by decide +kernel
theorem dX6_into_47 : decode cX6_into 47 = .ok (.iaload, 1) := by decide +kernel
theorem dX6_into_48 : decode cX6_into 48 = .ok (.bipush 9, 2) := by decide +kernel
theorem dX6_into_50 : decode cX6_into 50 = .ok (.if_icmp .ne 5, 3) := by decide +kernel
theorem dX6_into_53 : decode cX6_into 53 = .ok (.iconst 0, 1) := by decide +kernel
theorem dX6_into_54 : decode cX6_into 54 = .ok (.ireturn, 1) := by decide +kernel
theorem dX6_into_55 : decode cX6_into 55 = .ok (.aload_n 0, 1) := by decide +kernel
theorem dX6_into_56 : decode cX6_into 56 = .ok (.getfield 19, 3) := by decide +kernel
theorem dX6_into_59 : decode cX6_into 59 = .ok (.bipush 9, 2) := by decide +kernel
theorem dX6_into_61 : decode cX6_into 61 = .ok (.iload_n 1, 1) := by decide +kernel
theorem dX6_into_62 : decode cX6_into 62 = .ok (.imul, 1) := by decide +kernel
theorem dX6_into_63 : decode cX6_into 63 = .ok (.aload_n 0, 1) := by decide +kernel
theorem dX6_into_64 : decode cX6_into 64 = .ok (.getfield 16, 3) := by decide +kernel
theorem dX6_into_67 : decode cX6_into 67 = .ok (.iload_n 1, 1) := by decide +kernel
theorem dX6_into_68 : decode cX6_into 68 = .ok (.iaload, 1) := by decide +kernel
theorem dX6_into_69 : decode cX6_into 69 = .ok (.iadd, 1) := by decide +kernel
theorem dX6_into_70 : decode cX6_into 70 = .ok (.iload_n 2, 1) := by decide +kernel
theorem dX6_into_71 : decode cX6_into 71 = .ok (.iastore, 1) := by decide +kernel
theorem dX6_into_72 : decode cX6_into 72 = .ok (.aload_n 0, 1) := by decide +kernel
theorem dX6_into_73 : decode cX6_into 73 = .ok (.getfield 16, 3) := by decide +kernel
theorem dX6_into_76 : decode cX6_into 76 = .ok (.iload_n 1, 1) := by decide +kernel
theorem dX6_into_77 : decode cX6_into 77 = .ok (.dup2, 1) := by decide +kernel
theorem dX6_into_78 : decode cX6_into 78 = .ok (.iaload, 1) := by decide +kernel
theorem dX6_into_79 : decode cX6_into 79 = .ok (.iconst 1, 1) := by decide +kernel
theorem dX6_into_80 : decode cX6_into 80 = .ok (.iadd, 1) := by decide +kernel
theorem dX6_into_81 : decode cX6_into 81 = .ok (.iastore, 1) := by decide +kernel
theorem dX6_into_82 : decode cX6_into 82 = .ok (.iconst 1, 1) := by decide +kernel
theorem dX6_into_83 : decode cX6_into 83 = .ok (.ireturn, 1) := by decide +kernel
set_option maxRecDepth 20000 in
theorem ggX6_answer_X6_isCell : GoodIn wsX6_answer wsX6_isCell := goodIn_r _ [6, 7, 8, 9, 5, 10, 11, 12, 23, 24, 25, 26, 27, 28, 29, 30, 31, 32, 33, 34, 35, 36, 37, 38, 39, 40, 41, 42, 43, 44, 45] (by decide +kernel) (by decide +kernel)
set_option maxRecDepth 20000 in
theorem gX6_answer_X6_isCell : GoodIn wsX6_answer (wsV RX6 76 RX6 yX6_isCell wsX6_isCell) := goodIn_app (goodIn_of _ (by decide +kernel)) ggX6_answer_X6_isCell
set_option maxRecDepth 20000 in
theorem ggX6_answer_X6_throwsIf : GoodIn wsX6_answer wsX6_throwsIf := goodIn_r _ [16, 17, 23, 24, 25, 26, 27, 28, 29, 30, 31, 32, 33, 34, 35, 36, 37, 38, 39, 40, 41, 42, 43, 44, 45] (by decide +kernel) (by decide +kernel)
set_option maxRecDepth 20000 in
theorem gX6_answer_X6_throwsIf : GoodIn wsX6_answer (wsV RX6 80 RX6 yX6_throwsIf wsX6_throwsIf) := goodIn_app (goodIn_of _ (by decide +kernel)) ggX6_answer_X6_throwsIf
set_option maxRecDepth 20000 in
theorem ggX6_answer_X6_isSymbol : GoodIn wsX6_answer wsX6_isSymbol := goodIn_r _ [21, 22, 23, 24, 25, 26, 27, 28, 29, 30, 31, 32, 33, 34, 35, 36, 37, 38, 39, 40, 41, 42, 43, 44, 45] (by decide +kernel) (by decide +kernel)
set_option maxRecDepth 20000 in
theorem gX6_answer_X6_isSymbol : GoodIn wsX6_answer (wsV RX6 87 RX6 yX6_isSymbol wsX6_isSymbol) := goodIn_app (goodIn_of _ (by decide +kernel)) ggX6_answer_X6_isSymbol
theorem dX6_answer_0 : decode cX6_answer 0 = .ok (.aload_n 0, 1) := by decide +kernel
theorem dX6_answer_1 : decode cX6_answer 1 = .ok (.iconst 1, 1) := by decide +kernel
theorem dX6_answer_2 : decode cX6_answer 2 = .ok (.aload_n 0, 1) := by decide +kernel
theorem dX6_answer_3 : decode cX6_answer 3 = .ok (.iload_n 1, 1) := by decide +kernel
theorem dX6_answer_4 : decode cX6_answer 4 = .ok (.invokevirtual 76, 3) := by decide +kernel
theorem dX6_answer_7 : decode cX6_answer 7 = .ok (.ifCond .ne 7, 3) := by decide +kernel
theorem dX6_answer_10 : decode cX6_answer 10 = .ok (.iconst 1, 1) := by decide +kernel
theorem dX6_answer_11 : decode cX6_answer 11 = .ok (.goto 4, 3) := by decide +kernel
theorem dX6_answer_14 : decode cX6_answer 14 = .ok (.iconst 0, 1) := by decide +kernel
theorem dX6_answer_15 : decode cX6_answer 15 = .ok (.invokevirtual 80, 3) := by decide +kernel
theorem dX6_answer_18 : decode cX6_answer 18 = .ok (.ifCond .ne 39, 3) := by decide +kernel
theorem dX6_answer_21 : decode cX6_answer 21 = .ok (.aload_n 0, 1) := by decide +kernel
theorem dX6_answer_22 : decode cX6_answer 22 = .ok (.iconst 2, 1) := by decide +kernel
theorem dX6_answer_23 : decode cX6_answer 23 = .ok (.iload_n 2, 1) := by decide +kernel
theorem dX6_answer_24 : decode cX6_answer 24 = .ok (.iconst (-1), 1) := by decide +kernel
theorem dX6_answer_25 : decode cX6_answer 25 = .ok (.if_icmp .eq 15, 3) := by decide +kernel
theorem dX6_answer_28 : decode cX6_answer 28 = .ok (.aload_n 0, 1) := by decide +kernel
theorem dX6_answer_29 : decode cX6_answer 29 = .ok (.iload_n 2, 1) := by decide +kernel
theorem dX6_answer_30 : decode cX6_answer 30 = .ok (.invokevirtual 87, 3) := by decide +kernel
theorem dX6_answer_33 : decode cX6_answer 33 = .ok (.ifCond .ne 7, 3) := by decide +kernel
theorem dX6_answer_36 : decode cX6_answer 36 = .ok (.iconst 1, 1) := by decide +kernel
theorem dX6_answer_37 : decode cX6_answer 37 = .ok (.goto 4, 3) := by decide +kernel
theorem dX6_answer_40 : decode cX6_answer 40 = .ok (.iconst 0, 1) := by decide +kernel
theorem dX6_answer_41 : decode cX6_answer 41 = .ok (.invokevirtual 80, 3) := by decide +kernel
theorem dX6_answer_44 : decode cX6_answer 44 = .ok (.ifCond .ne 13, 3) := by decide +kernel
theorem dX6_answer_47 : decode cX6_answer 47 = .ok (.aload_n 0, 1) := by decide +kernel
theorem dX6_answer_48 : decode cX6_answer 48 = .ok (.getfield 22, 3) := by decide +kernel
theorem dX6_answer_51 : decode cX6_answer 51 = .ok (.iload_n 1, 1) := by decide +kernel
theorem dX6_answer_52 : decode cX6_answer 52 = .ok (.iaload, 1) := by decide +kernel
theorem dX6_answer_53 : decode cX6_answer 53 = .ok (.iload_n 2, 1) := by decide +kernel
theorem dX6_answer_54 : decode cX6_answer 54 = .ok (.if_icmp .ne 5, 3) := by decide +kernel
theorem dX6_answer_57 : decode cX6_answer 57 = .ok (.iconst 0, 1) := by decide +kernel
theorem dX6_answer_58 : decode cX6_answer 58 = .ok (.ireturn, 1) := by decide +kernel
theorem dX6_answer_59 : decode cX6_answer 59 = .ok (.aload_n 0, 1) := by decide +kernel
theorem dX6_answer_60 : decode cX6_answer 60 = .ok (.getfield 22, 3) := by decide +kernel
theorem dX6_answer_63 : decode cX6_answer 63 = .ok (.iload_n 1, 1) := by decide +kernel
theorem dX6_answer_64 : decode cX6_answer 64 = .ok (.iload_n 2, 1) := by decide +kernel
theorem dX6_answer_65 : decode cX6_answer 65 = .ok (.iastore, 1) := by decide +kernel
theorem dX6_answer_66 : decode cX6_answer 66 = .ok (.iconst 1, 1) := by decide +kernel
theorem dX6_answer_67 : decode cX6_answer 67 = .ok (.ireturn, 1) := by decide +kernel
theorem dX6_isNext_0 : decode cX6_isNext 0 = .ok (.iload_n 1, 1) := by decide +kernel
theorem dX6_isNext_1 : decode cX6_isNext 1 = .ok (.aload_n 0, 1) := by decide +kernel
theorem dX6_isNext_2 : decode cX6_isNext 2 = .ok (.getfield 53, 3) := by decide +kernel
theorem dX6_isNext_5 : decode cX6_isNext 5 = .ok (.irem, 1) := by decide +kernel
theorem dX6_isNext_6 : decode cX6_isNext 6 = .ok (.iload_n 2, 1) := by decide +kernel
theorem dX6_isNext_7 : decode cX6_isNext 7 = .ok (.aload_n 0, 1) := by decide +kernel
theorem dX6_isNext_8 : decode cX6_isNext 8 = .ok (.getfield 53, 3) := by decide +kernel
theorem dX6_isNext_11 : decode cX6_isNext 11 = .ok (.irem, 1) := by decide +kernel
theorem dX6_isNext_12 : decode cX6_isNext 12 = .ok (.isub, 1) := by decide +kernel
theorem dX6_isNext_13 : decode cX6_isNext 13 = .ok (.istore_n 3, 1) := by decide +kernel
theorem dX6_isNext_14 : decode cX6_isNext 14 = .ok (.iload_n 1, 1) := by decide +kernel
theorem dX6_isNext_15 : decode cX6_isNext 15 = .ok (.aload_n 0, 1) := by decide +kernel
theorem dX6_isNext_16 : decode cX6_isNext 16 = .ok (.getfield 53, 3) := by decide +kernel
theorem dX6_isNext_19 : decode cX6_isNext 19 = .ok (.idiv, 1) := by decide +kernel
theorem dX6_isNext_20 : decode cX6_isNext 20 = .ok (.iload_n 2, 1) := by decide +kernel
theorem dX6_isNext_21 : decode cX6_isNext 21 = .ok (.aload_n 0, 1) := by decide +kernel
theorem dX6_isNext_22 : decode cX6_isNext 22 = .ok (.getfield 53, 3) := by decide +kernel
theorem dX6_isNext_25 : decode cX6_isNext 25 = .ok (.idiv, 1) := by decide +kernel
theorem dX6_isNext_26 : decode cX6_isNext 26 = .ok (.isub, 1) := by decide +kernel
theorem dX6_isNext_27 : decode cX6_isNext 27 = .ok (.istore 4, 2) := by decide +kernel
theorem dX6_isNext_29 : decode cX6_isNext 29 = .ok (.iload_n 3, 1) := by decide +kernel
theorem dX6_isNext_30 : decode cX6_isNext 30 = .ok (.iload_n 3, 1) := by decide +kernel
theorem dX6_isNext_31 : decode cX6_isNext 31 = .ok (.imul, 1) := by decide +kernel
theorem dX6_isNext_32 : decode cX6_isNext 32 = .ok (.iload 4, 2) := by decide +kernel
theorem dX6_isNext_34 : decode cX6_isNext 34 = .ok (.iload 4, 2) := by decide +kernel
theorem dX6_isNext_36 : decode cX6_isNext 36 = .ok (.imul, 1) := by decide +kernel
theorem dX6_isNext_37 : decode cX6_isNext 37 = .ok (.iadd, 1) := by decide +kernel
theorem dX6_isNext_38 : decode cX6_isNext 38 = .ok (.iconst 1, 1) := by decide +kernel
theorem dX6_isNext_39 : decode cX6_isNext 39 = .ok (.if_icmp .ne 7, 3) := by decide +kernel
theorem dX6_isNext_42 : decode cX6_isNext 42 = .ok (.iconst 1, 1) := by decide +kernel
theorem dX6_isNext_43 : decode cX6_isNext 43 = .ok (.goto 4, 3) := by decide +kernel
theorem dX6_isNext_46 : decode cX6_isNext 46 = .ok (.iconst 0, 1) := by decide +kernel
theorem dX6_isNext_47 : decode cX6_isNext 47 = .ok (.ireturn, 1) := by decide +kernel
set_option maxRecDepth 20000 in
theorem ggX6_hangs_X6_member : GoodIn wsX6_hangs wsX6_member := goodIn_r _ [7, 8, 14, 15, 16, 17, 18, 19, 20, 21, 22, 23, 24, 25, 26, 27, 28, 29, 30, 31, 32, 33, 34, 35, 36] (by decide +kernel) (by decide +kernel)
set_option maxRecDepth 20000 in
theorem gX6_hangs_X6_member : GoodIn wsX6_hangs (wsV RX6 73 RX6 yX6_member wsX6_member) := goodIn_app (goodIn_of _ (by decide +kernel)) ggX6_hangs_X6_member
set_option maxRecDepth 20000 in
theorem ggX6_hangs_X6_isNext : GoodIn wsX6_hangs wsX6_isNext := goodIn_r _ [12, 13, 14, 15, 16, 17, 18, 19, 20, 21, 22, 23, 24, 25, 26, 27, 28, 29, 30, 31, 32, 33, 34, 35, 36] (by decide +kernel) (by decide +kernel)
set_option maxRecDepth 20000 in
theorem gX6_hangs_X6_isNext : GoodIn wsX6_hangs (wsV RX6 90 RX6 yX6_isNext wsX6_isNext) := goodIn_app (goodIn_of _ (by decide +kernel)) ggX6_hangs_X6_isNext
theorem dX6_hangs_0 : decode cX6_hangs 0 = .ok (.aload_n 0, 1) := by decide +kernel
theorem dX6_hangs_1 : decode cX6_hangs 1 = .ok (.getfield 16, 3) := by decide +kernel
theorem dX6_hangs_4 : decode cX6_hangs 4 = .ok (.iload_n 1, 1) := by decide +kernel
theorem dX6_hangs_5 : decode cX6_hangs 5 = .ok (.iaload, 1) := by decide +kernel
theorem dX6_hangs_6 : decode cX6_hangs 6 = .ok (.istore_n 2, 1) := by decide +kernel
theorem dX6_hangs_7 : decode cX6_hangs 7 = .ok (.iconst 0, 1) := by decide +kernel
theorem dX6_hangs_8 : decode cX6_hangs 8 = .ok (.istore_n 3, 1) := by decide +kernel
theorem dX6_hangs_9 : decode cX6_hangs 9 = .ok (.iconst 0, 1) := by decide +kernel
theorem dX6_hangs_10 : decode cX6_hangs 10 = .ok (.istore 4, 2) := by decide +kernel
theorem dX6_hangs_12 : decode cX6_hangs 12 = .ok (.iload_n 2, 1) := by decide +kernel
theorem dX6_hangs_13 : decode cX6_hangs 13 = .ok (.iconst 1, 1) := by decide +kernel
theorem dX6_hangs_14 : decode cX6_hangs 14 = .ok (.isub, 1) := by decide +kernel
theorem dX6_hangs_15 : decode cX6_hangs 15 = .ok (.istore 5, 2) := by decide +kernel
theorem dX6_hangs_17 : decode cX6_hangs 17 = .ok (.iload 5, 2) := by decide +kernel
theorem dX6_hangs_19 : decode cX6_hangs 19 = .ok (.ifCond .lt 37, 3) := by decide +kernel
theorem dX6_hangs_22 : decode cX6_hangs 22 = .ok (.aload_n 0, 1) := by decide +kernel
theorem dX6_hangs_23 : decode cX6_hangs 23 = .ok (.getfield 43, 3) := by decide +kernel
theorem dX6_hangs_26 : decode cX6_hangs 26 = .ok (.iload 5, 2) := by decide +kernel
theorem dX6_hangs_28 : decode cX6_hangs 28 = .ok (.iaload, 1) := by decide +kernel
theorem dX6_hangs_29 : decode cX6_hangs 29 = .ok (.iconst 1, 1) := by decide +kernel
theorem dX6_hangs_30 : decode cX6_hangs 30 = .ok (.if_icmp .eq 6, 3) := by decide +kernel
theorem dX6_hangs_33 : decode cX6_hangs 33 = .ok (.goto 17, 3) := by decide +kernel
theorem dX6_hangs_36 : decode cX6_hangs 36 = .ok (.iload 4, 2) := by decide +kernel
theorem dX6_hangs_38 : decode cX6_hangs 38 = .ok (.iconst 1, 1) := by decide +kernel
theorem dX6_hangs_39 : decode cX6_hangs 39 = .ok (.iload 5, 2) := by decide +kernel
theorem dX6_hangs_41 : decode cX6_hangs 41 = .ok (.ishl, 1) := by decide +kernel
theorem dX6_hangs_42 : decode cX6_hangs 42 = .ok (.ior, 1) := by decide +kernel
theorem dX6_hangs_43 : decode cX6_hangs 43 = .ok (.istore 4, 2) := by decide +kernel
theorem dX6_hangs_45 : decode cX6_hangs 45 = .ok (.iconst 1, 1) := by decide +kernel
theorem dX6_hangs_46 : decode cX6_hangs 46 = .ok (.iload 5, 2) := by decide +kernel
theorem dX6_hangs_48 : decode cX6_hangs 48 = .ok (.ishl, 1) := by decide +kernel
theorem dX6_hangs_49 : decode cX6_hangs 49 = .ok (.istore_n 3, 1) := by decide +kernel
theorem dX6_hangs_50 : decode cX6_hangs 50 = .ok (.iinc 5 (-1), 3) := by decide +kernel
theorem dX6_hangs_53 : decode cX6_hangs 53 = .ok (.goto (-36), 3) := by decide +kernel
theorem dX6_hangs_56 : decode cX6_hangs 56 = .ok (.iconst 0, 1) := by decide +kernel
theorem dX6_hangs_57 : decode cX6_hangs 57 = .ok (.istore 5, 2) := by decide +kernel
theorem dX6_hangs_59 : decode cX6_hangs 59 = .ok (.iload 5, 2) := by decide +kernel
theorem dX6_hangs_61 : decode cX6_hangs 61 = .ok (.iload_n 2, 1) := by decide +kernel
theorem dX6_hangs_62 : decode cX6_hangs 62 = .ok (.if_icmp .ge 88, 3) := by decide +kernel
theorem dX6_hangs_65 : decode cX6_hangs 65 = .ok (.iconst 0, 1) := by decide +kernel
theorem dX6_hangs_66 : decode cX6_hangs 66 = .ok (.istore 6, 2) := by decide +kernel
theorem dX6_hangs_68 : decode cX6_hangs 68 = .ok (.iload 6, 2) := by decide +kernel
theorem dX6_hangs_70 : decode cX6_hangs 70 = .ok (.iload_n 2, 1) := by decide +kernel
theorem dX6_hangs_71 : decode cX6_hangs 71 = .ok (.if_icmp .ge 73, 3) := by decide +kernel
theorem dX6_hangs_74 : decode cX6_hangs 74 = .ok (.iconst 0, 1) := by decide +kernel
theorem dX6_hangs_75 : decode cX6_hangs 75 = .ok (.istore 7, 2) := by decide +kernel
theorem dX6_hangs_77 : decode cX6_hangs 77 = .ok (.iload 7, 2) := by decide +kernel
theorem dX6_hangs_79 : decode cX6_hangs 79 = .ok (.iload_n 2, 1) := by decide +kernel
theorem dX6_hangs_80 : decode cX6_hangs 80 = .ok (.if_icmp .ge 58, 3) := by decide +kernel
theorem dX6_hangs_83 : decode cX6_hangs 83 = .ok (.iload_n 3, 1) := by decide +kernel
theorem dX6_hangs_84 : decode cX6_hangs 84 = .ok (.iload 6, 2) := by decide +kernel
theorem dX6_hangs_86 : decode cX6_hangs 86 = .ok (.ishr, 1) := by decide +kernel
theorem dX6_hangs_87 : decode cX6_hangs 87 = .ok (.iconst 1, 1) := by decide +kernel
theorem dX6_hangs_88 : decode cX6_hangs 88 = .ok (.iand, 1) := by decide +kernel
theorem dX6_hangs_89 : decode cX6_hangs 89 = .ok (.iconst 1, 1) := by decide +kernel
theorem dX6_hangs_90 : decode cX6_hangs 90 = .ok (.if_icmp .ne 42, 3) := by decide +kernel
theorem dX6_hangs_93 : decode cX6_hangs 93 = .ok (.iload 4, 2) := by decide +kernel
theorem dX6_hangs_95 : decode cX6_hangs 95 = .ok (.iload 7, 2) := by decide +kernel
theorem dX6_hangs_97 : decode cX6_hangs 97 = .ok (.ishr, 1) := by decide +kernel
theorem dX6_hangs_98 : decode cX6_hangs 98 = .ok (.iconst 1, 1) := by decide +kernel
theorem dX6_hangs_99 : decode cX6_hangs 99 = .ok (.iand, 1) := by decide +kernel
theorem dX6_hangs_100 : decode cX6_hangs 100 = .ok (.iconst 1, 1) := by decide +kernel
theorem dX6_hangs_101 : decode cX6_hangs 101 = .ok (.if_icmp .ne 31, 3) := by decide +kernel
theorem dX6_hangs_104 : decode cX6_hangs 104 = .ok (.aload_n 0, 1) := by decide +kernel
theorem dX6_hangs_105 : decode cX6_hangs 105 = .ok (.aload_n 0, 1) := by decide +kernel
theorem dX6_hangs_106 : decode cX6_hangs 106 = .ok (.iload_n 1, 1) := by decide +kernel
theorem dX6_hangs_107 : decode cX6_hangs 107 = .ok (.iload 6, 2) := by decide +kernel
theorem dX6_hangs_109 : decode cX6_hangs 109 = .ok (.invokevirtual 73, 3) := by decide +kernel
theorem dX6_hangs_112 : decode cX6_hangs 112 = .ok (.aload_n 0, 1) := by decide +kernel
theorem dX6_hangs_113 : decode cX6_hangs 113 = .ok (.iload_n 1, 1) := by decide +kernel
theorem dX6_hangs_114 : decode cX6_hangs 114 = .ok (.iload 7, 2) := by decide +kernel
theorem dX6_hangs_116 : decode cX6_hangs 116 = .ok (.invokevirtual 73, 3) := by decide +kernel
theorem dX6_hangs_119 : decode cX6_hangs 119 = .ok (.invokevirtual 90, 3) := by decide +kernel
theorem dX6_hangs_122 : decode cX6_hangs 122 = .ok (.ifCond .eq 10, 3) := by decide +kernel
theorem dX6_hangs_125 : decode cX6_hangs 125 = .ok (.iload_n 3, 1) := by decide +kernel
theorem dX6_hangs_126 : decode cX6_hangs 126 = .ok (.iconst 1, 1) := by decide +kernel
theorem dX6_hangs_127 : decode cX6_hangs 127 = .ok (.iload 7, 2) := by decide +kernel
theorem dX6_hangs_129 : decode cX6_hangs 129 = .ok (.ishl, 1) := by decide +kernel
theorem dX6_hangs_130 : decode cX6_hangs 130 = .ok (.ior, 1) := by decide +kernel
theorem dX6_hangs_131 : decode cX6_hangs 131 = .ok (.istore_n 3, 1) := by decide +kernel
theorem dX6_hangs_132 : decode cX6_hangs 132 = .ok (.iinc 7 1, 3) := by decide +kernel
theorem dX6_hangs_135 : decode cX6_hangs 135 = .ok (.goto (-58), 3) := by decide +kernel
theorem dX6_hangs_138 : decode cX6_hangs 138 = .ok (.iinc 6 1, 3) := by decide +kernel
theorem dX6_hangs_141 : decode cX6_hangs 141 = .ok (.goto (-73), 3) := by decide +kernel
theorem dX6_hangs_144 : decode cX6_hangs 144 = .ok (.iinc 5 1, 3) := by decide +kernel
theorem dX6_hangs_147 : decode cX6_hangs 147 = .ok (.goto (-88), 3) := by decide +kernel
theorem dX6_hangs_150 : decode cX6_hangs 150 = .ok (.iload_n 3, 1) := by decide +kernel
theorem dX6_hangs_151 : decode cX6_hangs 151 = .ok (.iload 4, 2) := by decide +kernel
theorem dX6_hangs_153 : decode cX6_hangs 153 = .ok (.if_icmp .ne 7, 3) := by decide +kernel
theorem dX6_hangs_156 : decode cX6_hangs 156 = .ok (.iconst 1, 1) := by decide +kernel
theorem dX6_hangs_157 : decode cX6_hangs 157 = .ok (.goto 4, 3) := by decide +kernel
theorem dX6_hangs_160 : decode cX6_hangs 160 = .ok (.iconst 0, 1) := by decide +kernel
theorem dX6_hangs_161 : decode cX6_hangs 161 = .ok (.ireturn, 1) := by decide +kernel
set_option maxRecDepth 20000 in
theorem ggX6_meets_X6_hangs : GoodIn wsX6_meets wsX6_hangs := goodIn_r _ [9, 1, 2, 10, 11, 12, 8, 13, 14, 15, 16, 17, 18, 19, 20, 21, 22, 23, 24, 25, 26, 27, 28, 29, 30, 31, 32, 33, 34, 35, 36, 37, 38, 39, 40, 41, 42] (by decide +kernel) (by decide +kernel)
set_option maxRecDepth 20000 in
theorem gX6_meets_X6_hangs : GoodIn wsX6_meets (wsV RX6 94 RX6 yX6_hangs wsX6_hangs) := goodIn_app (goodIn_of _ (by decide +kernel)) ggX6_meets_X6_hangs
theorem dX6_meets_0 : decode cX6_meets 0 = .ok (.aload_n 0, 1) := by decide +kernel
theorem dX6_meets_1 : decode cX6_meets 1 = .ok (.getfield 16, 3) := by decide +kernel
theorem dX6_meets_4 : decode cX6_meets 4 = .ok (.iload_n 1, 1) := by decide +kernel
theorem dX6_meets_5 : decode cX6_meets 5 = .ok (.iaload, 1) := by decide +kernel
theorem dX6_meets_6 : decode cX6_meets 6 = .ok (.istore_n 2, 1) := by decide +kernel
theorem dX6_meets_7 : decode cX6_meets 7 = .ok (.iconst 0, 1) := by decide +kernel
theorem dX6_meets_8 : decode cX6_meets 8 = .ok (.istore_n 3, 1) := by decide +kernel
theorem dX6_meets_9 : decode cX6_meets 9 = .ok (.iconst 0, 1) := by decide +kernel
theorem dX6_meets_10 : decode cX6_meets 10 = .ok (.istore 4, 2) := by decide +kernel
theorem dX6_meets_12 : decode cX6_meets 12 = .ok (.iconst 1, 1) := by decide +kernel
theorem dX6_meets_13 : decode cX6_meets 13 = .ok (.istore 5, 2) := by decide +kernel
theorem dX6_meets_15 : decode cX6_meets 15 = .ok (.iconst 1, 1) := by decide +kernel
theorem dX6_meets_16 : decode cX6_meets 16 = .ok (.istore 6, 2) := by decide +kernel
theorem dX6_meets_18 : decode cX6_meets 18 = .ok (.iconst 0, 1) := by decide +kernel
theorem dX6_meets_19 : decode cX6_meets 19 = .ok (.istore 7, 2) := by decide +kernel
theorem dX6_meets_21 : decode cX6_meets 21 = .ok (.iload 7, 2) := by decide +kernel
theorem dX6_meets_23 : decode cX6_meets 23 = .ok (.iload_n 2, 1) := by decide +kernel
theorem dX6_meets_24 : decode cX6_meets 24 = .ok (.if_icmp .ge 126, 3) := by decide +kernel
theorem dX6_meets_27 : decode cX6_meets 27 = .ok (.iload_n 3, 1) := by decide +kernel
theorem dX6_meets_28 : decode cX6_meets 28 = .ok (.aload_n 0, 1) := by decide +kernel
theorem dX6_meets_29 : decode cX6_meets 29 = .ok (.getfield 43, 3) := by decide +kernel
theorem dX6_meets_32 : decode cX6_meets 32 = .ok (.iload 7, 2) := by decide +kernel
theorem dX6_meets_34 : decode cX6_meets 34 = .ok (.iaload, 1) := by decide +kernel
theorem dX6_meets_35 : decode cX6_meets 35 = .ok (.iadd, 1) := by decide +kernel
theorem dX6_meets_36 : decode cX6_meets 36 = .ok (.istore_n 3, 1) := by decide +kernel
theorem dX6_meets_37 : decode cX6_meets 37 = .ok (.iload 4, 2) := by decide +kernel
theorem dX6_meets_39 : decode cX6_meets 39 = .ok (.aload_n 0, 1) := by decide +kernel
theorem dX6_meets_40 : decode cX6_meets 40 = .ok (.getfield 43, 3) := by decide +kernel
theorem dX6_meets_43 : decode cX6_meets 43 = .ok (.iload 7, 2) := by decide +kernel
theorem dX6_meets_45 : decode cX6_meets 45 = .ok (.iaload, 1) := by decide +kernel
theorem dX6_meets_46 : decode cX6_meets 46 = .ok (.aload_n 0, 1) := by decide +kernel
theorem dX6_meets_47 : decode cX6_meets 47 = .ok (.getfield 43, 3) := by decide +kernel
theorem dX6_meets_50 : decode cX6_meets 50 = .ok (.iconst 0, 1) := by decide +kernel
theorem dX6_meets_51 : decode cX6_meets 51 = .ok (.iaload, 1) := by decide +kernel
theorem dX6_meets_52 : decode cX6_meets 52 = .ok (.if_icmp .ne 7, 3) := by decide +kernel
theorem dX6_meets_55 : decode cX6_meets 55 = .ok (.iconst 1, 1) := by decide +kernel
theorem dX6_meets_56 : decode cX6_meets 56 = .ok (.goto 4, 3) := by decide +kernel
theorem dX6_meets_59 : decode cX6_meets 59 = .ok (.iconst 0, 1) := by decide +kernel
theorem dX6_meets_60 : decode cX6_meets 60 = .ok (.iadd, 1) := by decide +kernel
theorem dX6_meets_61 : decode cX6_meets 61 = .ok (.istore 4, 2) := by decide +kernel
theorem dX6_meets_63 : decode cX6_meets 63 = .ok (.iload 6, 2) := by decide +kernel
theorem dX6_meets_65 : decode cX6_meets 65 = .ok (.ifCond .eq 31, 3) := by decide +kernel
theorem dX6_meets_68 : decode cX6_meets 68 = .ok (.iload 7, 2) := by decide +kernel
theorem dX6_meets_70 : decode cX6_meets 70 = .ok (.ifCond .eq 22, 3) := by decide +kernel
theorem dX6_meets_73 : decode cX6_meets 73 = .ok (.aload_n 0, 1) := by decide +kernel
theorem dX6_meets_74 : decode cX6_meets 74 = .ok (.getfield 43, 3) := by decide +kernel
theorem dX6_meets_77 : decode cX6_meets 77 = .ok (.iload 7, 2) := by decide +kernel
theorem dX6_meets_79 : decode cX6_meets 79 = .ok (.iaload, 1) := by decide +kernel
theorem dX6_meets_80 : decode cX6_meets 80 = .ok (.aload_n 0, 1) := by decide +kernel
theorem dX6_meets_81 : decode cX6_meets 81 = .ok (.getfield 43, 3) := by decide +kernel
theorem dX6_meets_84 : decode cX6_meets 84 = .ok (.iload 7, 2) := by decide +kernel
theorem dX6_meets_86 : decode cX6_meets 86 = .ok (.iconst 1, 1) := by decide +kernel
theorem dX6_meets_87 : decode cX6_meets 87 = .ok (.isub, 1) := by decide +kernel
theorem dX6_meets_88 : decode cX6_meets 88 = .ok (.iaload, 1) := by decide +kernel
theorem dX6_meets_89 : decode cX6_meets 89 = .ok (.if_icmp .le 7, 3) := by decide +kernel
theorem dX6_meets_92 : decode cX6_meets 92 = .ok (.iconst 1, 1) := by decide +kernel
theorem dX6_meets_93 : decode cX6_meets 93 = .ok (.goto 4, 3) := by decide +kernel
theorem dX6_meets_96 : decode cX6_meets 96 = .ok (.iconst 0, 1) := by decide +kernel
theorem dX6_meets_97 : decode cX6_meets 97 = .ok (.istore 6, 2) := by decide +kernel
theorem dX6_meets_99 : decode cX6_meets 99 = .ok (.iconst 0, 1) := by decide +kernel
theorem dX6_meets_100 : decode cX6_meets 100 = .ok (.istore 8, 2) := by decide +kernel
theorem dX6_meets_102 : decode cX6_meets 102 = .ok (.iload 8, 2) := by decide +kernel
theorem dX6_meets_104 : decode cX6_meets 104 = .ok (.iload 7, 2) := by decide +kernel
theorem dX6_meets_106 : decode cX6_meets 106 = .ok (.if_icmp .ge 38, 3) := by decide +kernel
theorem dX6_meets_109 : decode cX6_meets 109 = .ok (.iload 5, 2) := by decide +kernel
theorem dX6_meets_111 : decode cX6_meets 111 = .ok (.ifCond .eq 24, 3) := by decide +kernel
theorem dX6_meets_114 : decode cX6_meets 114 = .ok (.aload_n 0, 1) := by decide +kernel
theorem dX6_meets_115 : decode cX6_meets 115 = .ok (.getfield 43, 3) := by decide +kernel
theorem dX6_meets_118 : decode cX6_meets 118 = .ok (.iload 8, 2) := by decide +kernel
theorem dX6_meets_120 : decode cX6_meets 120 = .ok (.iaload, 1) := by decide +kernel
theorem dX6_meets_121 : decode cX6_meets 121 = .ok (.aload_n 0, 1) := by decide +kernel
theorem dX6_meets_122 : decode cX6_meets 122 = .ok (.getfield 43, 3) := by decide +kernel
theorem dX6_meets_125 : decode cX6_meets 125 = .ok (.iload 7, 2) := by decide +kernel
theorem dX6_meets_127 : decode cX6_meets 127 = .ok (.iaload, 1) := by decide +kernel
theorem dX6_meets_128 : decode cX6_meets 128 = .ok (.if_icmp .eq 7, 3) := by decide +kernel
theorem dX6_meets_131 : decode cX6_meets 131 = .ok (.iconst 1, 1) := by decide +kernel
theorem dX6_meets_132 : decode cX6_meets 132 = .ok (.goto 4, 3) := by decide +kernel
theorem dX6_meets_135 : decode cX6_meets 135 = .ok (.iconst 0, 1) := by decide +kernel
theorem dX6_meets_136 : decode cX6_meets 136 = .ok (.istore 5, 2) := by decide +kernel
theorem dX6_meets_138 : decode cX6_meets 138 = .ok (.iinc 8 1, 3) := by decide +kernel
theorem dX6_meets_141 : decode cX6_meets 141 = .ok (.goto (-39), 3) := by decide +kernel
theorem dX6_meets_144 : decode cX6_meets 144 = .ok (.iinc 7 1, 3) := by decide +kernel
theorem dX6_meets_147 : decode cX6_meets 147 = .ok (.goto (-126), 3) := by decide +kernel
theorem dX6_meets_150 : decode cX6_meets 150 = .ok (.aload_n 0, 1) := by decide +kernel
theorem dX6_meets_151 : decode cX6_meets 151 = .ok (.getfield 7, 3) := by decide +kernel
theorem dX6_meets_154 : decode cX6_meets 154 = .ok (.iload_n 1, 1) := by decide +kernel
theorem dX6_meets_155 : decode cX6_meets 155 = .ok (.iaload, 1) := by decide +kernel
theorem dX6_meets_156 : decode cX6_meets 156 = .ok (.tableswitch 75 0 3 #[32, 35, 51, 54], 32) := by decide +kernel
theorem dX6_meets_188 : decode cX6_meets 188 = .ok (.iload 5, 2) := by decide +kernel
theorem dX6_meets_190 : decode cX6_meets 190 = .ok (.ireturn, 1) := by decide +kernel
theorem dX6_meets_191 : decode cX6_meets 191 = .ok (.iload_n 3, 1) := by decide +kernel
theorem dX6_meets_192 : decode cX6_meets 192 = .ok (.aload_n 0, 1) := by decide +kernel
theorem dX6_meets_193 : decode cX6_meets 193 = .ok (.getfield 13, 3) := by decide +kernel
theorem dX6_meets_196 : decode cX6_meets 196 = .ok (.iload_n 1, 1) := by decide +kernel
theorem dX6_meets_197 : decode cX6_meets 197 = .ok (.iaload, 1) := by decide +kernel
theorem dX6_meets_198 : decode cX6_meets 198 = .ok (.if_icmp .ne 7, 3) := by decide +kernel
theorem dX6_meets_201 : decode cX6_meets 201 = .ok (.iconst 1, 1) := by decide +kernel
theorem dX6_meets_202 : decode cX6_meets 202 = .ok (.goto 4, 3) := by decide +kernel
theorem dX6_meets_205 : decode cX6_meets 205 = .ok (.iconst 0, 1) := by decide +kernel
theorem dX6_meets_206 : decode cX6_meets 206 = .ok (.ireturn, 1) := by decide +kernel
theorem dX6_meets_207 : decode cX6_meets 207 = .ok (.iload 6, 2) := by decide +kernel
theorem dX6_meets_209 : decode cX6_meets 209 = .ok (.ireturn, 1) := by decide +kernel
theorem dX6_meets_210 : decode cX6_meets 210 = .ok (.iload_n 2, 1) := by decide +kernel
theorem dX6_meets_211 : decode cX6_meets 211 = .ok (.ifCond .eq 14, 3) := by decide +kernel
theorem dX6_meets_214 : decode cX6_meets 214 = .ok (.iload 4, 2) := by decide +kernel
theorem dX6_meets_216 : decode cX6_meets 216 = .ok (.aload_n 0, 1) := by decide +kernel
theorem dX6_meets_217 : decode cX6_meets 217 = .ok (.getfield 13, 3) := by decide +kernel
theorem dX6_meets_220 : decode cX6_meets 220 = .ok (.iload_n 1, 1) := by decide +kernel
theorem dX6_meets_221 : decode cX6_meets 221 = .ok (.iaload, 1) := by decide +kernel
theorem dX6_meets_222 : decode cX6_meets 222 = .ok (.if_icmp .ne 7, 3) := by decide +kernel
theorem dX6_meets_225 : decode cX6_meets 225 = .ok (.iconst 1, 1) := by decide +kernel
theorem dX6_meets_226 : decode cX6_meets 226 = .ok (.goto 4, 3) := by decide +kernel
theorem dX6_meets_229 : decode cX6_meets 229 = .ok (.iconst 0, 1) := by decide +kernel
theorem dX6_meets_230 : decode cX6_meets 230 = .ok (.ireturn, 1) := by decide +kernel
theorem dX6_meets_231 : decode cX6_meets 231 = .ok (.aload_n 0, 1) := by decide +kernel
theorem dX6_meets_232 : decode cX6_meets 232 = .ok (.iload_n 1, 1) := by decide +kernel
theorem dX6_meets_233 : decode cX6_meets 233 = .ok (.invokevirtual 94, 3) := by decide +kernel
theorem dX6_meets_236 : decode cX6_meets 236 = .ok (.ireturn, 1) := by decide +kernel
set_option maxRecDepth 20000 in
theorem ggX6_testRule_X6_member : GoodIn wsX6_testRule wsX6_member := goodIn_r _ [8, 9, 25, 26, 27, 28, 29, 30, 31, 32, 33, 34, 35, 36, 37, 38, 39, 40, 41, 42, 43, 44, 45, 46, 47] (by decide +kernel) (by decide +kernel)
set_option maxRecDepth 20000 in
theorem gX6_testRule_X6_member : GoodIn wsX6_testRule (wsV RX6 73 RX6 yX6_member wsX6_member) := goodIn_app (goodIn_of _ (by decide +kernel)) ggX6_testRule_X6_member
set_option maxRecDepth 20000 in
theorem ggX6_testRule_X6_meets : GoodIn wsX6_testRule wsX6_meets := goodIn_r _ [13, 1, 2, 14, 15, 16, 17, 18, 7, 19, 4, 5, 6, 8, 9, 20, 21, 22, 23, 24, 25, 26, 27, 28, 29, 30, 31, 32, 33, 34, 35, 36, 37, 38, 39, 40, 41, 42, 43, 44, 45, 46, 47] (by decide +kernel) (by decide +kernel)
set_option maxRecDepth 20000 in
theorem gX6_testRule_X6_meets : GoodIn wsX6_testRule (wsV RX6 97 RX6 yX6_meets wsX6_meets) := goodIn_app (goodIn_of _ (by decide +kernel)) ggX6_testRule_X6_meets
theorem dX6_testRule_0 : decode cX6_testRule 0 = .ok (.iconst 0, 1) := by decide +kernel
theorem dX6_testRule_1 : decode cX6_testRule 1 = .ok (.istore_n 2, 1) := by decide +kernel
theorem dX6_testRule_2 : decode cX6_testRule 2 = .ok (.iload_n 2, 1) := by decide +kernel
theorem dX6_testRule_3 : decode cX6_testRule 3 = .ok (.aload_n 0, 1) := by decide +kernel
theorem dX6_testRule_4 : decode cX6_testRule 4 = .ok (.getfield 16, 3) := by decide +kernel
theorem dX6_testRule_7 : decode cX6_testRule 7 = .ok (.iload_n 1, 1) := by decide +kernel
theorem dX6_testRule_8 : decode cX6_testRule 8 = .ok (.iaload, 1) := by decide +kernel
theorem dX6_testRule_9 : decode cX6_testRule 9 = .ok (.if_icmp .ge 37, 3) := by decide +kernel
theorem dX6_testRule_12 : decode cX6_testRule 12 = .ok (.aload_n 0, 1) := by decide +kernel
theorem dX6_testRule_13 : decode cX6_testRule 13 = .ok (.getfield 43, 3) := by decide +kernel
theorem dX6_testRule_16 : decode cX6_testRule 16 = .ok (.iload_n 2, 1) := by decide +kernel
theorem dX6_testRule_17 : decode cX6_testRule 17 = .ok (.aload_n 0, 1) := by decide +kernel
theorem dX6_testRule_18 : decode cX6_testRule 18 = .ok (.getfield 22, 3) := by decide +kernel
theorem dX6_testRule_21 : decode cX6_testRule 21 = .ok (.aload_n 0, 1) := by decide +kernel
theorem dX6_testRule_22 : decode cX6_testRule 22 = .ok (.iload_n 1, 1) := by decide +kernel
theorem dX6_testRule_23 : decode cX6_testRule 23 = .ok (.iload_n 2, 1) := by decide +kernel
theorem dX6_testRule_24 : decode cX6_testRule 24 = .ok (.invokevirtual 73, 3) := by decide +kernel
theorem dX6_testRule_27 : decode cX6_testRule 27 = .ok (.iaload, 1) := by decide +kernel
theorem dX6_testRule_28 : decode cX6_testRule 28 = .ok (.iastore, 1) := by decide +kernel
theorem dX6_testRule_29 : decode cX6_testRule 29 = .ok (.aload_n 0, 1) := by decide +kernel
theorem dX6_testRule_30 : decode cX6_testRule 30 = .ok (.getfield 43, 3) := by decide +kernel
theorem dX6_testRule_33 : decode cX6_testRule 33 = .ok (.iload_n 2, 1) := by decide +kernel
theorem dX6_testRule_34 : decode cX6_testRule 34 = .ok (.iaload, 1) := by decide +kernel
theorem dX6_testRule_35 : decode cX6_testRule 35 = .ok (.ifCond .ge 5, 3) := by decide +kernel
theorem dX6_testRule_38 : decode cX6_testRule 38 = .ok (.iconst (-1), 1) := by decide +kernel
theorem dX6_testRule_39 : decode cX6_testRule 39 = .ok (.ireturn, 1) := by decide +kernel
theorem dX6_testRule_40 : decode cX6_testRule 40 = .ok (.iinc 2 1, 3) := by decide +kernel
theorem dX6_testRule_43 : decode cX6_testRule 43 = .ok (.goto (-41), 3) := by decide +kernel
theorem dX6_testRule_46 : decode cX6_testRule 46 = .ok (.aload_n 0, 1) := by decide +kernel
theorem dX6_testRule_47 : decode cX6_testRule 47 = .ok (.iload_n 1, 1) := by decide +kernel
theorem dX6_testRule_48 : decode cX6_testRule 48 = .ok (.invokevirtual 97, 3) := by decide +kernel
theorem dX6_testRule_51 : decode cX6_testRule 51 = .ok (.ifCond .eq 7, 3) := by decide +kernel
theorem dX6_testRule_54 : decode cX6_testRule 54 = .ok (.iconst 1, 1) := by decide +kernel
theorem dX6_testRule_55 : decode cX6_testRule 55 = .ok (.goto 4, 3) := by decide +kernel
theorem dX6_testRule_58 : decode cX6_testRule 58 = .ok (.iconst 0, 1) := by decide +kernel
theorem dX6_testRule_59 : decode cX6_testRule 59 = .ok (.ireturn, 1) := by decide +kernel
set_option maxRecDepth 20000 in
theorem ggX6_test_X6_throwsIf : GoodIn wsX6_test wsX6_throwsIf := goodIn_r _ [6, 7, 35, 36, 37, 38, 39, 40, 41, 42, 43, 44, 45, 46, 47, 48, 49, 50, 51, 52, 53, 54, 55, 56, 57] (by decide +kernel) (by decide +kernel)
set_option maxRecDepth 20000 in
theorem gX6_test_X6_throwsIf : GoodIn wsX6_test (wsV RX6 80 RX6 yX6_throwsIf wsX6_throwsIf) := goodIn_app (goodIn_of _ (by decide +kernel)) ggX6_test_X6_throwsIf
set_option maxRecDepth 20000 in
theorem ggX6_test_X6_testRule : GoodIn wsX6_test wsX6_testRule := goodIn_r _ [11, 12, 13, 14, 15, 16, 17, 5, 18, 19, 20, 21, 22, 23, 24, 25, 26, 27, 28, 29, 30, 31, 32, 33, 34, 35, 36, 37, 38, 39, 40, 41, 42, 43, 44, 45, 46, 47, 48, 49, 50, 51, 52, 53, 54, 55, 56, 57] (by decide +kernel) (by decide +kernel)
set_option maxRecDepth 20000 in
theorem gX6_test_X6_testRule : GoodIn wsX6_test (wsV RX6 100 RX6 yX6_testRule wsX6_testRule) := goodIn_app (goodIn_of _ (by decide +kernel)) ggX6_test_X6_testRule
theorem dX6_test_0 : decode cX6_test 0 = .ok (.aload_n 0, 1) := by decide +kernel
theorem dX6_test_1 : decode cX6_test 1 = .ok (.iconst 1, 1) := by decide +kernel
theorem dX6_test_2 : decode cX6_test 2 = .ok (.iload_n 1, 1) := by decide +kernel
theorem dX6_test_3 : decode cX6_test 3 = .ok (.ifCond .lt 11, 3) := by decide +kernel
theorem dX6_test_6 : decode cX6_test 6 = .ok (.iload_n 1, 1) := by decide +kernel
theorem dX6_test_7 : decode cX6_test 7 = .ok (.aload_n 0, 1) := by decide +kernel
theorem dX6_test_8 : decode cX6_test 8 = .ok (.getfield 70, 3) := by decide +kernel
theorem dX6_test_11 : decode cX6_test 11 = .ok (.if_icmp .lt 7, 3) := by decide +kernel
theorem dX6_test_14 : decode cX6_test 14 = .ok (.iconst 1, 1) := by decide +kernel
theorem dX6_test_15 : decode cX6_test 15 = .ok (.goto 4, 3) := by decide +kernel
theorem dX6_test_18 : decode cX6_test 18 = .ok (.iconst 0, 1) := by decide +kernel
theorem dX6_test_19 : decode cX6_test 19 = .ok (.invokevirtual 80, 3) := by decide +kernel
theorem dX6_test_22 : decode cX6_test 22 = .ok (.ifCond .eq 7, 3) := by decide +kernel
theorem dX6_test_25 : decode cX6_test 25 = .ok (.iconst 0, 1) := by decide +kernel
theorem dX6_test_26 : decode cX6_test 26 = .ok (.goto 8, 3) := by decide +kernel
theorem dX6_test_29 : decode cX6_test 29 = .ok (.aload_n 0, 1) := by decide +kernel
theorem dX6_test_30 : decode cX6_test 30 = .ok (.iload_n 1, 1) := by decide +kernel
theorem dX6_test_31 : decode cX6_test 31 = .ok (.invokevirtual 100, 3) := by decide +kernel
theorem dX6_test_34 : decode cX6_test 34 = .ok (.ireturn, 1) := by decide +kernel
set_option maxRecDepth 20000 in
theorem ggX6_firstFailing_X6_testRule : GoodIn wsX6_firstFailing wsX6_testRule := goodIn_r _ [6, 7, 8, 9, 10, 11, 12, 5, 13, 14, 15, 16, 17, 18, 19, 20, 21, 22, 23, 24, 25, 26, 27, 28, 29, 30, 31, 32, 33, 34, 35, 36, 37, 38, 39, 40, 41, 42, 43, 44, 45, 46, 47, 48, 49, 50, 51, 52] (by decide +kernel) (by decide +kernel)
set_option maxRecDepth 20000 in
theorem gX6_firstFailing_X6_testRule : GoodIn wsX6_firstFailing (wsV RX6 100 RX6 yX6_testRule wsX6_testRule) := goodIn_app (goodIn_of _ (by decide +kernel)) ggX6_firstFailing_X6_testRule
theorem dX6_firstFailing_0 : decode cX6_firstFailing 0 = .ok (.iconst 0, 1) := by decide +kernel
theorem dX6_firstFailing_1 : decode cX6_firstFailing 1 = .ok (.istore_n 1, 1) := by decide +kernel
theorem dX6_firstFailing_2 : decode cX6_firstFailing 2 = .ok (.iload_n 1, 1) := by decide +kernel
theorem dX6_firstFailing_3 : decode cX6_firstFailing 3 = .ok (.aload_n 0, 1) := by decide +kernel
theorem dX6_firstFailing_4 : decode cX6_firstFailing 4 = .ok (.getfield 70, 3) := by decide +kernel
theorem dX6_firstFailing_7 : decode cX6_firstFailing 7 = .ok (.if_icmp .ge 20, 3) := by decide +kernel
theorem dX6_firstFailing_10 : decode cX6_firstFailing 10 = .ok (.aload_n 0, 1) := by decide +kernel
theorem dX6_firstFailing_11 : decode cX6_firstFailing 11 = .ok (.iload_n 1, 1) := by decide +kernel
theorem dX6_firstFailing_12 : decode cX6_firstFailing 12 = .ok (.invokevirtual 100, 3) := by decide +kernel
theorem dX6_firstFailing_15 : decode cX6_firstFailing 15 = .ok (.iconst 1, 1) := by decide +kernel
theorem dX6_firstFailing_16 : decode cX6_firstFailing 16 = .ok (.if_icmp .eq 5, 3) := by decide +kernel
theorem dX6_firstFailing_19 : decode cX6_firstFailing 19 = .ok (.iload_n 1, 1) := by decide +kernel
theorem dX6_firstFailing_20 : decode cX6_firstFailing 20 = .ok (.ireturn, 1) := by decide +kernel
theorem dX6_firstFailing_21 : decode cX6_firstFailing 21 = .ok (.iinc 1 1, 3) := by decide +kernel
theorem dX6_firstFailing_24 : decode cX6_firstFailing 24 = .ok (.goto (-22), 3) := by decide +kernel
theorem dX6_firstFailing_27 : decode cX6_firstFailing 27 = .ok (.iconst (-1), 1) := by decide +kernel
theorem dX6_firstFailing_28 : decode cX6_firstFailing 28 = .ok (.ireturn, 1) := by decide +kernel
set_option maxRecDepth 20000 in
theorem ggX6_fails_X6_firstFailing : GoodIn wsX6_fails wsX6_firstFailing := goodIn_r _ [6, 7, 8, 9, 10, 5, 11, 12, 13, 14, 15, 16, 17, 18, 19, 20, 21, 22, 23, 24, 25, 26, 27, 28, 29, 30, 31, 32, 33, 34, 35, 36, 37, 38, 39, 40, 41, 42, 43, 44, 45, 46, 47, 48, 49, 50, 51, 52, 53, 54, 55, 56, 57] (by decide +kernel) (by decide +kernel)
set_option maxRecDepth 20000 in
theorem gX6_fails_X6_firstFailing : GoodIn wsX6_fails (wsV RX6 104 RX6 yX6_firstFailing wsX6_firstFailing) := goodIn_app (goodIn_of _ (by decide +kernel)) ggX6_fails_X6_firstFailing
theorem dX6_fails_0 : decode cX6_fails 0 = .ok (.aload_n 0, 1) := by decide +kernel
theorem dX6_fails_1 : decode cX6_fails 1 = .ok (.iconst 0, 1) := by decide +kernel
theorem dX6_fails_2 : decode cX6_fails 2 = .ok (.putfield 63, 3) := by decide +kernel
theorem dX6_fails_5 : decode cX6_fails 5 = .ok (.aload_n 0, 1) := by decide +kernel
theorem dX6_fails_6 : decode cX6_fails 6 = .ok (.invokevirtual 104, 3) := by decide +kernel
theorem dX6_fails_9 : decode cX6_fails 9 = .ok (.ireturn, 1) := by decide +kernel
set_option maxRecDepth 20000 in
theorem ggX6_line_X6_begin : GoodIn wsX6_line wsX6_begin := goodIn_r _ [7, 8, 9, 10, 11, 12, 13, 14, 15, 16, 17, 18, 19, 20, 21, 22, 23, 24, 25, 26, 27, 28, 29, 30, 31, 32, 33] (by decide +kernel) (by decide +kernel)
set_option maxRecDepth 20000 in
theorem gX6_line_X6_begin : GoodIn wsX6_line (wsV RX6 110 RX6 yX6_begin wsX6_begin) := goodIn_app (goodIn_of _ (by decide +kernel)) ggX6_line_X6_begin
theorem dX6_line_0 : decode cX6_line 0 = .ok (.aload_n 0, 1) := by decide +kernel
theorem dX6_line_1 : decode cX6_line 1 = .ok (.iconst 0, 1) := by decide +kernel
theorem dX6_line_2 : decode cX6_line 2 = .ok (.putfield 63, 3) := by decide +kernel
theorem dX6_line_5 : decode cX6_line 5 = .ok (.iload_n 1, 1) := by decide +kernel
theorem dX6_line_6 : decode cX6_line 6 = .ok (.ifCond .lt 17, 3) := by decide +kernel
theorem dX6_line_9 : decode cX6_line 9 = .ok (.iload_n 1, 1) := by decide +kernel
theorem dX6_line_10 : decode cX6_line 10 = .ok (.iconst 3, 1) := by decide +kernel
theorem dX6_line_11 : decode cX6_line 11 = .ok (.if_icmp .gt 12, 3) := by decide +kernel
theorem dX6_line_14 : decode cX6_line 14 = .ok (.aload_n 0, 1) := by decide +kernel
theorem dX6_line_15 : decode cX6_line 15 = .ok (.getfield 107, 3) := by decide +kernel
theorem dX6_line_18 : decode cX6_line 18 = .ok (.bipush 60, 2) := by decide +kernel
theorem dX6_line_20 : decode cX6_line 20 = .ok (.if_icmp .ne 5, 3) := by decide +kernel
theorem dX6_line_23 : decode cX6_line 23 = .ok (.iconst (-1), 1) := by decide +kernel
theorem dX6_line_24 : decode cX6_line 24 = .ok (.ireturn, 1) := by decide +kernel
theorem dX6_line_25 : decode cX6_line 25 = .ok (.aload_n 0, 1) := by decide +kernel
theorem dX6_line_26 : decode cX6_line 26 = .ok (.aload_n 0, 1) := by decide +kernel
theorem dX6_line_27 : decode cX6_line 27 = .ok (.getfield 107, 3) := by decide +kernel
theorem dX6_line_30 : decode cX6_line 30 = .ok (.iload_n 1, 1) := by decide +kernel
theorem dX6_line_31 : decode cX6_line 31 = .ok (.iload_n 2, 1) := by decide +kernel
theorem dX6_line_32 : decode cX6_line 32 = .ok (.invokevirtual 110, 3) := by decide +kernel
theorem dX6_line_35 : decode cX6_line 35 = .ok (.aload_n 0, 1) := by decide +kernel
theorem dX6_line_36 : decode cX6_line 36 = .ok (.dup, 1) := by decide +kernel
theorem dX6_line_37 : decode cX6_line 37 = .ok (.getfield 107, 3) := by decide +kernel
theorem dX6_line_40 : decode cX6_line 40 = .ok (.iconst 1, 1) := by decide +kernel
theorem dX6_line_41 : decode cX6_line 41 = .ok (.iadd, 1) := by decide +kernel
theorem dX6_line_42 : decode cX6_line 42 = .ok (.putfield 107, 3) := by decide +kernel
theorem dX6_line_45 : decode cX6_line 45 = .ok (.aload_n 0, 1) := by decide +kernel
theorem dX6_line_46 : decode cX6_line 46 = .ok (.getfield 107, 3) := by decide +kernel
theorem dX6_line_49 : decode cX6_line 49 = .ok (.iconst 1, 1) := by decide +kernel
theorem dX6_line_50 : decode cX6_line 50 = .ok (.isub, 1) := by decide +kernel
theorem dX6_line_51 : decode cX6_line 51 = .ok (.ireturn, 1) := by decide +kernel
theorem dX6_begin_0 : decode cX6_begin 0 = .ok (.aload_n 0, 1) := by decide +kernel
theorem dX6_begin_1 : decode cX6_begin 1 = .ok (.getfield 25, 3) := by decide +kernel
theorem dX6_begin_4 : decode cX6_begin 4 = .ok (.iload_n 1, 1) := by decide +kernel
theorem dX6_begin_5 : decode cX6_begin 5 = .ok (.iload_n 2, 1) := by decide +kernel
theorem dX6_begin_6 : decode cX6_begin 6 = .ok (.iastore, 1) := by decide +kernel
theorem dX6_begin_7 : decode cX6_begin 7 = .ok (.aload_n 0, 1) := by decide +kernel
theorem dX6_begin_8 : decode cX6_begin 8 = .ok (.getfield 28, 3) := by decide +kernel
theorem dX6_begin_11 : decode cX6_begin 11 = .ok (.iload_n 1, 1) := by decide +kernel
theorem dX6_begin_12 : decode cX6_begin 12 = .ok (.iload_n 3, 1) := by decide +kernel
theorem dX6_begin_13 : decode cX6_begin 13 = .ok (.iastore, 1) := by decide +kernel
theorem dX6_begin_14 : decode cX6_begin 14 = .ok (.aload_n 0, 1) := by decide +kernel
theorem dX6_begin_15 : decode cX6_begin 15 = .ok (.getfield 31, 3) := by decide +kernel
theorem dX6_begin_18 : decode cX6_begin 18 = .ok (.iload_n 1, 1) := by decide +kernel
theorem dX6_begin_19 : decode cX6_begin 19 = .ok (.iconst 0, 1) := by decide +kernel
theorem dX6_begin_20 : decode cX6_begin 20 = .ok (.iastore, 1) := by decide +kernel
theorem dX6_begin_21 : decode cX6_begin 21 = .ok (.return_, 1) := by decide +kernel
theorem dX6_has_0 : decode cX6_has 0 = .ok (.iconst 0, 1) := by decide +kernel
theorem dX6_has_1 : decode cX6_has 1 = .ok (.istore_n 3, 1) := by decide +kernel
theorem dX6_has_2 : decode cX6_has 2 = .ok (.iload_n 3, 1) := by decide +kernel
theorem dX6_has_3 : decode cX6_has 3 = .ok (.aload_n 0, 1) := by decide +kernel
theorem dX6_has_4 : decode cX6_has 4 = .ok (.getfield 31, 3) := by decide +kernel
theorem dX6_has_7 : decode cX6_has 7 = .ok (.iload_n 1, 1) := by decide +kernel
theorem dX6_has_8 : decode cX6_has 8 = .ok (.iaload, 1) := by decide +kernel
theorem dX6_has_9 : decode cX6_has 9 = .ok (.if_icmp .ge 26, 3) := by decide +kernel
theorem dX6_has_12 : decode cX6_has 12 = .ok (.aload_n 0, 1) := by decide +kernel
theorem dX6_has_13 : decode cX6_has 13 = .ok (.getfield 34, 3) := by decide +kernel
theorem dX6_has_16 : decode cX6_has 16 = .ok (.bipush 16, 2) := by decide +kernel
theorem dX6_has_18 : decode cX6_has 18 = .ok (.iload_n 1, 1) := by decide +kernel
theorem dX6_has_19 : decode cX6_has 19 = .ok (.imul, 1) := by decide +kernel
theorem dX6_has_20 : decode cX6_has 20 = .ok (.iload_n 3, 1) := by decide +kernel
theorem dX6_has_21 : decode cX6_has 21 = .ok (.iadd, 1) := by decide +kernel
theorem dX6_has_22 : decode cX6_has 22 = .ok (.iaload, 1) := by decide +kernel
theorem dX6_has_23 : decode cX6_has 23 = .ok (.iload_n 2, 1) := by decide +kernel
theorem dX6_has_24 : decode cX6_has 24 = .ok (.if_icmp .ne 5, 3) := by decide +kernel
theorem dX6_has_27 : decode cX6_has 27 = .ok (.iconst 1, 1) := by decide +kernel
theorem dX6_has_28 : decode cX6_has 28 = .ok (.ireturn, 1) := by decide +kernel
theorem dX6_has_29 : decode cX6_has 29 = .ok (.iinc 3 1, 3) := by decide +kernel
theorem dX6_has_32 : decode cX6_has 32 = .ok (.goto (-30), 3) := by decide +kernel
theorem dX6_has_35 : decode cX6_has 35 = .ok (.iconst 0, 1) := by decide +kernel
theorem dX6_has_36 : decode cX6_has 36 = .ok (.ireturn, 1) := by decide +kernel
theorem dX6_literalOf_0 : decode cX6_literalOf 0 = .ok (.iconst 2, 1) := by decide +kernel
theorem dX6_literalOf_1 : decode cX6_literalOf 1 = .ok (.aload_n 0, 1) := by decide +kernel
theorem dX6_literalOf_2 : decode cX6_literalOf 2 = .ok (.getfield 60, 3) := by decide +kernel
theorem dX6_literalOf_5 : decode cX6_literalOf 5 = .ok (.iload_n 1, 1) := by decide +kernel
theorem dX6_literalOf_6 : decode cX6_literalOf 6 = .ok (.imul, 1) := by decide +kernel
theorem dX6_literalOf_7 : decode cX6_literalOf 7 = .ok (.iload_n 2, 1) := by decide +kernel
theorem dX6_literalOf_8 : decode cX6_literalOf 8 = .ok (.iadd, 1) := by decide +kernel
theorem dX6_literalOf_9 : decode cX6_literalOf 9 = .ok (.imul, 1) := by decide +kernel
theorem dX6_literalOf_10 : decode cX6_literalOf 10 = .ok (.iload_n 3, 1) := by decide +kernel
theorem dX6_literalOf_11 : decode cX6_literalOf 11 = .ok (.ifCond .eq 7, 3) := by decide +kernel
theorem dX6_literalOf_14 : decode cX6_literalOf 14 = .ok (.iconst 1, 1) := by decide +kernel
theorem dX6_literalOf_15 : decode cX6_literalOf 15 = .ok (.goto 4, 3) := by decide +kernel
theorem dX6_literalOf_18 : decode cX6_literalOf 18 = .ok (.iconst 0, 1) := by decide +kernel
theorem dX6_literalOf_19 : decode cX6_literalOf 19 = .ok (.iadd, 1) := by decide +kernel
theorem dX6_literalOf_20 : decode cX6_literalOf 20 = .ok (.ireturn, 1) := by decide +kernel
theorem dX6_add_0 : decode cX6_add 0 = .ok (.aload_n 0, 1) := by decide +kernel
theorem dX6_add_1 : decode cX6_add 1 = .ok (.getfield 34, 3) := by decide +kernel
theorem dX6_add_4 : decode cX6_add 4 = .ok (.bipush 16, 2) := by decide +kernel
theorem dX6_add_6 : decode cX6_add 6 = .ok (.iload_n 1, 1) := by decide +kernel
theorem dX6_add_7 : decode cX6_add 7 = .ok (.imul, 1) := by decide +kernel
theorem dX6_add_8 : decode cX6_add 8 = .ok (.aload_n 0, 1) := by decide +kernel
theorem dX6_add_9 : decode cX6_add 9 = .ok (.getfield 31, 3) := by decide +kernel
theorem dX6_add_12 : decode cX6_add 12 = .ok (.iload_n 1, 1) := by decide +kernel
theorem dX6_add_13 : decode cX6_add 13 = .ok (.iaload, 1) := by decide +kernel
theorem dX6_add_14 : decode cX6_add 14 = .ok (.iadd, 1) := by decide +kernel
theorem dX6_add_15 : decode cX6_add 15 = .ok (.iload_n 2, 1) := by decide +kernel
theorem dX6_add_16 : decode cX6_add 16 = .ok (.iastore, 1) := by decide +kernel
theorem dX6_add_17 : decode cX6_add 17 = .ok (.aload_n 0, 1) := by decide +kernel
theorem dX6_add_18 : decode cX6_add 18 = .ok (.getfield 31, 3) := by decide +kernel
theorem dX6_add_21 : decode cX6_add 21 = .ok (.iload_n 1, 1) := by decide +kernel
theorem dX6_add_22 : decode cX6_add 22 = .ok (.dup2, 1) := by decide +kernel
theorem dX6_add_23 : decode cX6_add 23 = .ok (.iaload, 1) := by decide +kernel
theorem dX6_add_24 : decode cX6_add 24 = .ok (.iconst 1, 1) := by decide +kernel
theorem dX6_add_25 : decode cX6_add 25 = .ok (.iadd, 1) := by decide +kernel
theorem dX6_add_26 : decode cX6_add 26 = .ok (.iastore, 1) := by decide +kernel
theorem dX6_add_27 : decode cX6_add 27 = .ok (.return_, 1) := by decide +kernel
set_option maxRecDepth 20000 in
theorem ggX6_literal_X6_isCell : GoodIn wsX6_literal wsX6_isCell := goodIn_r _ [7, 8, 9, 10, 6, 11, 12, 13, 37, 38, 39, 40, 41, 42, 43, 44, 45, 46, 47, 48, 49, 50, 51, 52, 53, 54, 55, 56, 57, 58, 59] (by decide +kernel) (by decide +kernel)
set_option maxRecDepth 20000 in
theorem gX6_literal_X6_isCell : GoodIn wsX6_literal (wsV RX6 76 RX6 yX6_isCell wsX6_isCell) := goodIn_app (goodIn_of _ (by decide +kernel)) ggX6_literal_X6_isCell
set_option maxRecDepth 20000 in
theorem ggX6_literal_X6_throwsIf : GoodIn wsX6_literal wsX6_throwsIf := goodIn_r _ [17, 18, 37, 38, 39, 40, 41, 42, 43, 44, 45, 46, 47, 48, 49, 50, 51, 52, 53, 54, 55, 56, 57, 58, 59] (by decide +kernel) (by decide +kernel)
set_option maxRecDepth 20000 in
theorem gX6_literal_X6_throwsIf : GoodIn wsX6_literal (wsV RX6 80 RX6 yX6_throwsIf wsX6_throwsIf) := goodIn_app (goodIn_of _ (by decide +kernel)) ggX6_literal_X6_throwsIf
set_option maxRecDepth 20000 in
theorem ggX6_literal_X6_isSymbol : GoodIn wsX6_literal wsX6_isSymbol := goodIn_r _ [22, 23, 37, 38, 39, 40, 41, 42, 43, 44, 45, 46, 47, 48, 49, 50, 51, 52, 53, 54, 55, 56, 57, 58, 59] (by decide +kernel) (by decide +kernel)
set_option maxRecDepth 20000 in
theorem gX6_literal_X6_isSymbol : GoodIn wsX6_literal (wsV RX6 87 RX6 yX6_isSymbol wsX6_isSymbol) := goodIn_app (goodIn_of _ (by decide +kernel)) ggX6_literal_X6_isSymbol
set_option maxRecDepth 20000 in
theorem ggX6_literal_X6_literalOf : GoodIn wsX6_literal wsX6_literalOf := goodIn_r _ [27, 23, 37, 38, 39, 40, 41, 42, 43, 44, 45, 46, 47, 48, 49, 50, 51, 52, 53, 54, 55, 56, 57, 58, 59] (by decide +kernel) (by decide +kernel)
set_option maxRecDepth 20000 in
theorem gX6_literal_X6_literalOf : GoodIn wsX6_literal (wsV RX6 114 RX6 yX6_literalOf wsX6_literalOf) := goodIn_app (goodIn_of _ (by decide +kernel)) ggX6_literal_X6_literalOf
set_option maxRecDepth 20000 in
theorem ggX6_literal_X6_has : GoodIn wsX6_literal wsX6_has := goodIn_r _ [31, 2, 32, 37, 38, 39, 40, 41, 42, 43, 44, 45, 46, 47, 48, 49, 50, 51, 52, 53, 54, 55, 56, 57, 58, 59] (by decide +kernel) (by decide +kernel)
set_option maxRecDepth 20000 in
theorem gX6_literal_X6_has : GoodIn wsX6_literal (wsV RX6 118 RX6 yX6_has wsX6_has) := goodIn_app (goodIn_of _ (by decide +kernel)) ggX6_literal_X6_has
set_option maxRecDepth 20000 in
theorem ggX6_literal_X6_add : GoodIn wsX6_literal wsX6_add := goodIn_r _ [36, 32, 2, 37, 38, 39, 40, 41, 42, 43, 44, 45, 46, 47, 48, 49, 50, 51, 52, 53, 54, 55, 56, 57, 58, 59] (by decide +kernel) (by decide +kernel)
set_option maxRecDepth 20000 in
theorem gX6_literal_X6_add : GoodIn wsX6_literal (wsV RX6 121 RX6 yX6_add wsX6_add) := goodIn_app (goodIn_of _ (by decide +kernel)) ggX6_literal_X6_add
theorem dX6_literal_0 : decode cX6_literal 0 = .ok (.aload_n 0, 1) := by decide +kernel
theorem dX6_literal_1 : decode cX6_literal 1 = .ok (.iconst 1, 1) := by decide +kernel
theorem dX6_literal_2 : decode cX6_literal 2 = .ok (.aload_n 0, 1) := by decide +kernel
theorem dX6_literal_3 : decode cX6_literal 3 = .ok (.iload_n 1, 1) := by decide +kernel
theorem dX6_literal_4 : decode cX6_literal 4 = .ok (.invokevirtual 76, 3) := by decide +kernel
theorem dX6_literal_7 : decode cX6_literal 7 = .ok (.ifCond .ne 7, 3) := by decide +kernel
theorem dX6_literal_10 : decode cX6_literal 10 = .ok (.iconst 1, 1) := by decide +kernel
theorem dX6_literal_11 : decode cX6_literal 11 = .ok (.goto 4, 3) := by decide +kernel
theorem dX6_literal_14 : decode cX6_literal 14 = .ok (.iconst 0, 1) := by decide +kernel
theorem dX6_literal_15 : decode cX6_literal 15 = .ok (.invokevirtual 80, 3) := by decide +kernel
theorem dX6_literal_18 : decode cX6_literal 18 = .ok (.ifCond .ne 31, 3) := by decide +kernel
theorem dX6_literal_21 : decode cX6_literal 21 = .ok (.aload_n 0, 1) := by decide +kernel
theorem dX6_literal_22 : decode cX6_literal 22 = .ok (.iconst 2, 1) := by decide +kernel
theorem dX6_literal_23 : decode cX6_literal 23 = .ok (.aload_n 0, 1) := by decide +kernel
theorem dX6_literal_24 : decode cX6_literal 24 = .ok (.iload_n 2, 1) := by decide +kernel
theorem dX6_literal_25 : decode cX6_literal 25 = .ok (.invokevirtual 87, 3) := by decide +kernel
theorem dX6_literal_28 : decode cX6_literal 28 = .ok (.ifCond .ne 7, 3) := by decide +kernel
theorem dX6_literal_31 : decode cX6_literal 31 = .ok (.iconst 1, 1) := by decide +kernel
theorem dX6_literal_32 : decode cX6_literal 32 = .ok (.goto 4, 3) := by decide +kernel
theorem dX6_literal_35 : decode cX6_literal 35 = .ok (.iconst 0, 1) := by decide +kernel
theorem dX6_literal_36 : decode cX6_literal 36 = .ok (.invokevirtual 80, 3) := by decide +kernel
theorem dX6_literal_39 : decode cX6_literal 39 = .ok (.ifCond .ne 10, 3) := by decide +kernel
theorem dX6_literal_42 : decode cX6_literal 42 = .ok (.aload_n 0, 1) := by decide +kernel
theorem dX6_literal_43 : decode cX6_literal 43 = .ok (.getfield 107, 3) := by decide +kernel
theorem dX6_literal_46 : decode cX6_literal 46 = .ok (.ifCond .ne 5, 3) := by decide +kernel
theorem dX6_literal_49 : decode cX6_literal 49 = .ok (.iconst 0, 1) := by decide +kernel
theorem dX6_literal_50 : decode cX6_literal 50 = .ok (.ireturn, 1) := by decide +kernel
theorem dX6_literal_51 : decode cX6_literal 51 = .ok (.aload_n 0, 1) := by decide +kernel
theorem dX6_literal_52 : decode cX6_literal 52 = .ok (.aload_n 0, 1) := by decide +kernel
theorem dX6_literal_53 : decode cX6_literal 53 = .ok (.getfield 107, 3) := by decide +kernel
theorem dX6_literal_56 : decode cX6_literal 56 = .ok (.iconst 1, 1) := by decide +kernel
theorem dX6_literal_57 : decode cX6_literal 57 = .ok (.isub, 1) := by decide +kernel
theorem dX6_literal_58 : decode cX6_literal 58 = .ok (.aload_n 0, 1) := by decide +kernel
theorem dX6_literal_59 : decode cX6_literal 59 = .ok (.iload_n 1, 1) := by decide +kernel
theorem dX6_literal_60 : decode cX6_literal 60 = .ok (.iload_n 2, 1) := by decide +kernel
theorem dX6_literal_61 : decode cX6_literal 61 = .ok (.iload_n 3, 1) := by decide +kernel
theorem dX6_literal_62 : decode cX6_literal 62 = .ok (.invokevirtual 114, 3) := by decide +kernel
theorem dX6_literal_65 : decode cX6_literal 65 = .ok (.invokevirtual 118, 3) := by decide +kernel
theorem dX6_literal_68 : decode cX6_literal 68 = .ok (.ifCond .ne 19, 3) := by decide +kernel
theorem dX6_literal_71 : decode cX6_literal 71 = .ok (.aload_n 0, 1) := by decide +kernel
theorem dX6_literal_72 : decode cX6_literal 72 = .ok (.getfield 31, 3) := by decide +kernel
theorem dX6_literal_75 : decode cX6_literal 75 = .ok (.aload_n 0, 1) := by decide +kernel
theorem dX6_literal_76 : decode cX6_literal 76 = .ok (.getfield 107, 3) := by decide +kernel
theorem dX6_literal_79 : decode cX6_literal 79 = .ok (.iconst 1, 1) := by decide +kernel
theorem dX6_literal_80 : decode cX6_literal 80 = .ok (.isub, 1) := by decide +kernel
theorem dX6_literal_81 : decode cX6_literal 81 = .ok (.iaload, 1) := by decide +kernel
theorem dX6_literal_82 : decode cX6_literal 82 = .ok (.bipush 16, 2) := by decide +kernel
theorem dX6_literal_84 : decode cX6_literal 84 = .ok (.if_icmp .ne 5, 3) := by decide +kernel
theorem dX6_literal_87 : decode cX6_literal 87 = .ok (.iconst 0, 1) := by decide +kernel
theorem dX6_literal_88 : decode cX6_literal 88 = .ok (.ireturn, 1) := by decide +kernel
theorem dX6_literal_89 : decode cX6_literal 89 = .ok (.aload_n 0, 1) := by decide +kernel
theorem dX6_literal_90 : decode cX6_literal 90 = .ok (.aload_n 0, 1) := by decide +kernel
theorem dX6_literal_91 : decode cX6_literal 91 = .ok (.getfield 107, 3) := by decide +kernel
theorem dX6_literal_94 : decode cX6_literal 94 = .ok (.iconst 1, 1) := by decide +kernel
theorem dX6_literal_95 : decode cX6_literal 95 = .ok (.isub, 1) := by decide +kernel
theorem dX6_literal_96 : decode cX6_literal 96 = .ok (.aload_n 0, 1) := by decide +kernel
theorem dX6_literal_97 : decode cX6_literal 97 = .ok (.iload_n 1, 1) := by decide +kernel
theorem dX6_literal_98 : decode cX6_literal 98 = .ok (.iload_n 2, 1) := by decide +kernel
theorem dX6_literal_99 : decode cX6_literal 99 = .ok (.iload_n 3, 1) := by decide +kernel
theorem dX6_literal_100 : decode cX6_literal 100 = .ok (.invokevirtual 114, 3) := by decide +kernel
theorem dX6_literal_103 : decode cX6_literal 103 = .ok (.invokevirtual 121, 3) := by decide +kernel
theorem dX6_literal_106 : decode cX6_literal 106 = .ok (.iconst 1, 1) := by decide +kernel
theorem dX6_literal_107 : decode cX6_literal 107 = .ok (.ireturn, 1) := by decide +kernel
theorem dX6_drop_0 : decode cX6_drop 0 = .ok (.aload_n 0, 1) := by decide +kernel
theorem dX6_drop_1 : decode cX6_drop 1 = .ok (.iconst 0, 1) := by decide +kernel
theorem dX6_drop_2 : decode cX6_drop 2 = .ok (.putfield 63, 3) := by decide +kernel
theorem dX6_drop_5 : decode cX6_drop 5 = .ok (.aload_n 0, 1) := by decide +kernel
theorem dX6_drop_6 : decode cX6_drop 6 = .ok (.getfield 107, 3) := by decide +kernel
theorem dX6_drop_9 : decode cX6_drop 9 = .ok (.ifCond .ne 5, 3) := by decide +kernel
theorem dX6_drop_12 : decode cX6_drop 12 = .ok (.iconst 0, 1) := by decide +kernel
theorem dX6_drop_13 : decode cX6_drop 13 = .ok (.ireturn, 1) := by decide +kernel
theorem dX6_drop_14 : decode cX6_drop 14 = .ok (.aload_n 0, 1) := by decide +kernel
theorem dX6_drop_15 : decode cX6_drop 15 = .ok (.dup, 1) := by decide +kernel
theorem dX6_drop_16 : decode cX6_drop 16 = .ok (.getfield 107, 3) := by decide +kernel
theorem dX6_drop_19 : decode cX6_drop 19 = .ok (.iconst 1, 1) := by decide +kernel
theorem dX6_drop_20 : decode cX6_drop 20 = .ok (.isub, 1) := by decide +kernel
theorem dX6_drop_21 : decode cX6_drop 21 = .ok (.putfield 107, 3) := by decide +kernel
theorem dX6_drop_24 : decode cX6_drop 24 = .ok (.iconst 1, 1) := by decide +kernel
theorem dX6_drop_25 : decode cX6_drop 25 = .ok (.ireturn, 1) := by decide +kernel
theorem dX6_cellOf_0 : decode cX6_cellOf 0 = .ok (.iload_n 1, 1) := by decide +kernel
theorem dX6_cellOf_1 : decode cX6_cellOf 1 = .ok (.iconst 2, 1) := by decide +kernel
theorem dX6_cellOf_2 : decode cX6_cellOf 2 = .ok (.idiv, 1) := by decide +kernel
theorem dX6_cellOf_3 : decode cX6_cellOf 3 = .ok (.aload_n 0, 1) := by decide +kernel
theorem dX6_cellOf_4 : decode cX6_cellOf 4 = .ok (.getfield 60, 3) := by decide +kernel
theorem dX6_cellOf_7 : decode cX6_cellOf 7 = .ok (.idiv, 1) := by decide +kernel
theorem dX6_cellOf_8 : decode cX6_cellOf 8 = .ok (.ireturn, 1) := by decide +kernel
theorem dX6_symbolOf_0 : decode cX6_symbolOf 0 = .ok (.iload_n 1, 1) := by decide +kernel
theorem dX6_symbolOf_1 : decode cX6_symbolOf 1 = .ok (.iconst 2, 1) := by decide +kernel
theorem dX6_symbolOf_2 : decode cX6_symbolOf 2 = .ok (.idiv, 1) := by decide +kernel
theorem dX6_symbolOf_3 : decode cX6_symbolOf 3 = .ok (.aload_n 0, 1) := by decide +kernel
theorem dX6_symbolOf_4 : decode cX6_symbolOf 4 = .ok (.getfield 60, 3) := by decide +kernel
theorem dX6_symbolOf_7 : decode cX6_symbolOf 7 = .ok (.irem, 1) := by decide +kernel
theorem dX6_symbolOf_8 : decode cX6_symbolOf 8 = .ok (.ireturn, 1) := by decide +kernel
set_option maxRecDepth 20000 in
theorem ggX6_isFilled_X6_cellOf : GoodIn wsX6_isFilled wsX6_cellOf := goodIn_r _ [6, 7, 22, 23, 24, 25, 26, 27, 28, 29, 30, 31, 32, 33, 34, 35, 36, 37, 38, 39, 40, 41, 42, 43, 44] (by decide +kernel) (by decide +kernel)
set_option maxRecDepth 20000 in
theorem gX6_isFilled_X6_cellOf : GoodIn wsX6_isFilled (wsV RX6 125 RX6 yX6_cellOf wsX6_cellOf) := goodIn_app (goodIn_of _ (by decide +kernel)) ggX6_isFilled_X6_cellOf
set_option maxRecDepth 20000 in
theorem ggX6_isFilled_X6_seat : GoodIn wsX6_isFilled wsX6_seat := goodIn_r _ [11, 12, 13, 14, 15, 5, 16, 17, 22, 23, 24, 25, 26, 27, 28, 29, 30, 31, 32, 33, 34, 35, 36, 37, 38, 39, 40, 41, 42, 43, 44] (by decide +kernel) (by decide +kernel)
set_option maxRecDepth 20000 in
theorem gX6_isFilled_X6_seat : GoodIn wsX6_isFilled (wsV RX6 84 RX6 yX6_seat wsX6_seat) := goodIn_app (goodIn_of _ (by decide +kernel)) ggX6_isFilled_X6_seat
set_option maxRecDepth 20000 in
theorem ggX6_isFilled_X6_symbolOf : GoodIn wsX6_isFilled wsX6_symbolOf := goodIn_r _ [21, 7, 22, 23, 24, 25, 26, 27, 28, 29, 30, 31, 32, 33, 34, 35, 36, 37, 38, 39, 40, 41, 42, 43, 44] (by decide +kernel) (by decide +kernel)
set_option maxRecDepth 20000 in
theorem gX6_isFilled_X6_symbolOf : GoodIn wsX6_isFilled (wsV RX6 128 RX6 yX6_symbolOf wsX6_symbolOf) := goodIn_app (goodIn_of _ (by decide +kernel)) ggX6_isFilled_X6_symbolOf
theorem dX6_isFilled_0 : decode cX6_isFilled 0 = .ok (.aload_n 0, 1) := by decide +kernel
theorem dX6_isFilled_1 : decode cX6_isFilled 1 = .ok (.iload_n 1, 1) := by decide +kernel
theorem dX6_isFilled_2 : decode cX6_isFilled 2 = .ok (.aload_n 0, 1) := by decide +kernel
theorem dX6_isFilled_3 : decode cX6_isFilled 3 = .ok (.iload_n 2, 1) := by decide +kernel
theorem dX6_isFilled_4 : decode cX6_isFilled 4 = .ok (.invokevirtual 125, 3) := by decide +kernel
theorem dX6_isFilled_7 : decode cX6_isFilled 7 = .ok (.invokevirtual 84, 3) := by decide +kernel
theorem dX6_isFilled_10 : decode cX6_isFilled 10 = .ok (.istore_n 3, 1) := by decide +kernel
theorem dX6_isFilled_11 : decode cX6_isFilled 11 = .ok (.iload_n 3, 1) := by decide +kernel
theorem dX6_isFilled_12 : decode cX6_isFilled 12 = .ok (.ifCond .lt 41, 3) := by decide +kernel
theorem dX6_isFilled_15 : decode cX6_isFilled 15 = .ok (.aload_n 0, 1) := by decide +kernel
theorem dX6_isFilled_16 : decode cX6_isFilled 16 = .ok (.getfield 43, 3) := by decide +kernel
theorem dX6_isFilled_19 : decode cX6_isFilled 19 = .ok (.iload_n 3, 1) := by decide +kernel
theorem dX6_isFilled_20 : decode cX6_isFilled 20 = .ok (.iaload, 1) := by decide +kernel
theorem dX6_isFilled_21 : decode cX6_isFilled 21 = .ok (.aload_n 0, 1) := by decide +kernel
theorem dX6_isFilled_22 : decode cX6_isFilled 22 = .ok (.iload_n 2, 1) := by decide +kernel
theorem dX6_isFilled_23 : decode cX6_isFilled 23 = .ok (.invokevirtual 128, 3) := by decide +kernel
theorem dX6_isFilled_26 : decode cX6_isFilled 26 = .ok (.if_icmp .ne 7, 3) := by decide +kernel
theorem dX6_isFilled_29 : decode cX6_isFilled 29 = .ok (.iconst 1, 1) := by decide +kernel
theorem dX6_isFilled_30 : decode cX6_isFilled 30 = .ok (.goto 4, 3) := by decide +kernel
theorem dX6_isFilled_33 : decode cX6_isFilled 33 = .ok (.iconst 0, 1) := by decide +kernel
theorem dX6_isFilled_34 : decode cX6_isFilled 34 = .ok (.iload_n 2, 1) := by decide +kernel
theorem dX6_isFilled_35 : decode cX6_isFilled 35 = .ok (.iconst 2, 1) := by decide +kernel
theorem dX6_isFilled_36 : decode cX6_isFilled 36 = .ok (.irem, 1) := by decide +kernel
theorem dX6_isFilled_37 : decode cX6_isFilled 37 = .ok (.iconst 1, 1) := by decide +kernel
theorem dX6_isFilled_38 : decode cX6_isFilled 38 = .ok (.if_icmp .ne 7, 3) := by decide +kernel
theorem dX6_isFilled_41 : decode cX6_isFilled 41 = .ok (.iconst 1, 1) := by decide +kernel
theorem dX6_isFilled_42 : decode cX6_isFilled 42 = .ok (.goto 4, 3) := by decide +kernel
theorem dX6_isFilled_45 : decode cX6_isFilled 45 = .ok (.iconst 0, 1) := by decide +kernel
theorem dX6_isFilled_46 : decode cX6_isFilled 46 = .ok (.if_icmp .ne 7, 3) := by decide +kernel
theorem dX6_isFilled_49 : decode cX6_isFilled 49 = .ok (.iconst 1, 1) := by decide +kernel
theorem dX6_isFilled_50 : decode cX6_isFilled 50 = .ok (.goto 4, 3) := by decide +kernel
theorem dX6_isFilled_53 : decode cX6_isFilled 53 = .ok (.iconst 0, 1) := by decide +kernel
theorem dX6_isFilled_54 : decode cX6_isFilled 54 = .ok (.ireturn, 1) := by decide +kernel
set_option maxRecDepth 20000 in
theorem ggX6_byRule_X6_meets : GoodIn wsX6_byRule wsX6_meets := goodIn_r _ [12, 3, 5, 13, 14, 15, 16, 17, 11, 18, 19, 20, 21, 22, 23, 24, 25, 26, 27, 28, 45, 46, 47, 48, 49, 50, 51, 52, 53, 54, 55, 56, 57, 58, 59, 60, 61, 62, 63, 64, 65, 66, 67] (by decide +kernel) (by decide +kernel)
set_option maxRecDepth 20000 in
theorem gX6_byRule_X6_meets : GoodIn wsX6_byRule (wsV RX6 97 RX6 yX6_meets wsX6_meets) := goodIn_app (goodIn_of _ (by decide +kernel)) ggX6_byRule_X6_meets
set_option maxRecDepth 20000 in
theorem ggX6_byRule_X6_isFilled : GoodIn wsX6_byRule wsX6_isFilled := goodIn_r _ [32, 5, 33, 34, 35, 11, 36, 4, 37, 38, 39, 40, 3, 19, 20, 21, 22, 23, 41, 42, 43, 44, 45, 46, 47, 48, 49, 50, 51, 52, 53, 54, 55, 56, 57, 58, 59, 60, 61, 62, 63, 64, 65, 66, 67] (by decide +kernel) (by decide +kernel)
set_option maxRecDepth 20000 in
theorem gX6_byRule_X6_isFilled : GoodIn wsX6_byRule (wsV RX6 131 RX6 yX6_isFilled wsX6_isFilled) := goodIn_app (goodIn_of _ (by decide +kernel)) ggX6_byRule_X6_isFilled
theorem dX6_byRule_0 : decode cX6_byRule 0 = .ok (.aload_n 0, 1) := by decide +kernel
theorem dX6_byRule_1 : decode cX6_byRule 1 = .ok (.getfield 28, 3) := by decide +kernel
theorem dX6_byRule_4 : decode cX6_byRule 4 = .ok (.iload_n 1, 1) := by decide +kernel
theorem dX6_byRule_5 : decode cX6_byRule 5 = .ok (.iaload, 1) := by decide +kernel
theorem dX6_byRule_6 : decode cX6_byRule 6 = .ok (.istore_n 2, 1) := by decide +kernel
theorem dX6_byRule_7 : decode cX6_byRule 7 = .ok (.iload_n 2, 1) := by decide +kernel
theorem dX6_byRule_8 : decode cX6_byRule 8 = .ok (.ifCond .lt 11, 3) := by decide +kernel
theorem dX6_byRule_11 : decode cX6_byRule 11 = .ok (.iload_n 2, 1) := by decide +kernel
theorem dX6_byRule_12 : decode cX6_byRule 12 = .ok (.aload_n 0, 1) := by decide +kernel
theorem dX6_byRule_13 : decode cX6_byRule 13 = .ok (.getfield 70, 3) := by decide +kernel
theorem dX6_byRule_16 : decode cX6_byRule 16 = .ok (.if_icmp .lt 5, 3) := by decide +kernel
theorem dX6_byRule_19 : decode cX6_byRule 19 = .ok (.iconst 0, 1) := by decide +kernel
theorem dX6_byRule_20 : decode cX6_byRule 20 = .ok (.ireturn, 1) := by decide +kernel
theorem dX6_byRule_21 : decode cX6_byRule 21 = .ok (.iconst 1, 1) := by decide +kernel
theorem dX6_byRule_22 : decode cX6_byRule 22 = .ok (.istore_n 3, 1) := by decide +kernel
theorem dX6_byRule_23 : decode cX6_byRule 23 = .ok (.iconst 0, 1) := by decide +kernel
theorem dX6_byRule_24 : decode cX6_byRule 24 = .ok (.istore 4, 2) := by decide +kernel
theorem dX6_byRule_26 : decode cX6_byRule 26 = .ok (.iload 4, 2) := by decide +kernel
theorem dX6_byRule_28 : decode cX6_byRule 28 = .ok (.aload_n 0, 1) := by decide +kernel
theorem dX6_byRule_29 : decode cX6_byRule 29 = .ok (.getfield 16, 3) := by decide +kernel
theorem dX6_byRule_32 : decode cX6_byRule 32 = .ok (.iload_n 2, 1) := by decide +kernel
theorem dX6_byRule_33 : decode cX6_byRule 33 = .ok (.iaload, 1) := by decide +kernel
theorem dX6_byRule_34 : decode cX6_byRule 34 = .ok (.if_icmp .ge 27, 3) := by decide +kernel
theorem dX6_byRule_37 : decode cX6_byRule 37 = .ok (.iload_n 3, 1) := by decide +kernel
theorem dX6_byRule_38 : decode cX6_byRule 38 = .ok (.sipush 4096, 3) := by decide +kernel
theorem dX6_byRule_41 : decode cX6_byRule 41 = .ok (.if_icmp .le 7, 3) := by decide +kernel
theorem dX6_byRule_44 : decode cX6_byRule 44 = .ok (.iload_n 3, 1) := by decide +kernel
theorem dX6_byRule_45 : decode cX6_byRule 45 = .ok (.goto 9, 3) := by decide +kernel
theorem dX6_byRule_48 : decode cX6_byRule 48 = .ok (.iload_n 3, 1) := by decide +kernel
theorem dX6_byRule_49 : decode cX6_byRule 49 = .ok (.aload_n 0, 1) := by decide +kernel
theorem dX6_byRule_50 : decode cX6_byRule 50 = .ok (.getfield 60, 3) := by decide +kernel
theorem dX6_byRule_53 : decode cX6_byRule 53 = .ok (.imul, 1) := by decide +kernel
theorem dX6_byRule_54 : decode cX6_byRule 54 = .ok (.istore_n 3, 1) := by decide +kernel
theorem dX6_byRule_55 : decode cX6_byRule 55 = .ok (.iinc 4 1, 3) := by decide +kernel
theorem dX6_byRule_58 : decode cX6_byRule 58 = .ok (.goto (-32), 3) := by decide +kernel
theorem dX6_byRule_61 : decode cX6_byRule 61 = .ok (.iload_n 3, 1) := by decide +kernel
theorem dX6_byRule_62 : decode cX6_byRule 62 = .ok (.sipush 4096, 3) := by decide +kernel
theorem dX6_byRule_65 : decode cX6_byRule 65 = .ok (.if_icmp .le 5, 3) := by decide +kernel
theorem dX6_byRule_68 : decode cX6_byRule 68 = .ok (.iconst 0, 1) := by decide +kernel
theorem dX6_byRule_69 : decode cX6_byRule 69 = .ok (.ireturn, 1) := by decide +kernel
theorem dX6_byRule_70 : decode cX6_byRule 70 = .ok (.iconst 0, 1) := by decide +kernel
theorem dX6_byRule_71 : decode cX6_byRule 71 = .ok (.istore 4, 2) := by decide +kernel
theorem dX6_byRule_73 : decode cX6_byRule 73 = .ok (.iload 4, 2) := by decide +kernel
theorem dX6_byRule_75 : decode cX6_byRule 75 = .ok (.iload_n 3, 1) := by decide +kernel
theorem dX6_byRule_76 : decode cX6_byRule 76 = .ok (.if_icmp .ge 130, 3) := by decide +kernel
theorem dX6_byRule_79 : decode cX6_byRule 79 = .ok (.iload 4, 2) := by decide +kernel
theorem dX6_byRule_81 : decode cX6_byRule 81 = .ok (.istore 5, 2) := by decide +kernel
theorem dX6_byRule_83 : decode cX6_byRule 83 = .ok (.iconst 0, 1) := by decide +kernel
theorem dX6_byRule_84 : decode cX6_byRule 84 = .ok (.istore 6, 2) := by decide +kernel
theorem dX6_byRule_86 : decode cX6_byRule 86 = .ok (.iload 6, 2) := by decide +kernel
theorem dX6_byRule_88 : decode cX6_byRule 88 = .ok (.aload_n 0, 1) := by decide +kernel
theorem dX6_byRule_89 : decode cX6_byRule 89 = .ok (.getfield 16, 3) := by decide +kernel
theorem dX6_byRule_92 : decode cX6_byRule 92 = .ok (.iload_n 2, 1) := by decide +kernel
theorem dX6_byRule_93 : decode cX6_byRule 93 = .ok (.iaload, 1) := by decide +kernel
theorem dX6_byRule_94 : decode cX6_byRule 94 = .ok (.if_icmp .ge 32, 3) := by decide +kernel
theorem dX6_byRule_97 : decode cX6_byRule 97 = .ok (.aload_n 0, 1) := by decide +kernel
theorem dX6_byRule_98 : decode cX6_byRule 98 = .ok (.getfield 43, 3) := by decide +kernel
theorem dX6_byRule_101 : decode cX6_byRule 101 = .ok (.iload 6, 2) := by decide +kernel
theorem dX6_byRule_103 : decode cX6_byRule 103 = .ok (.iload 5, 2) := by decide +kernel
theorem dX6_byRule_105 : decode cX6_byRule 105 = .ok (.aload_n 0, 1) := by decide +kernel
theorem dX6_byRule_106 : decode cX6_byRule 106 = .ok (.getfield 60, 3) := by decide +kernel
theorem dX6_byRule_109 : decode cX6_byRule 109 = .ok (.irem, 1) := by decide +kernel
theorem dX6_byRule_110 : decode cX6_byRule 110 = .ok (.iastore, 1) := by decide +kernel
theorem dX6_byRule_111 : decode cX6_byRule 111 = .ok (.iload 5, 2) := by decide +kernel
theorem dX6_byRule_113 : decode cX6_byRule 113 = .ok (.aload_n 0, 1) := by decide +kernel
theorem dX6_byRule_114 : decode cX6_byRule 114 = .ok (.getfield 60, 3) := by decide +kernel
theorem dX6_byRule_117 : decode cX6_byRule 117 = .ok (.idiv, 1) := by decide +kernel
theorem dX6_byRule_118 : decode cX6_byRule 118 = .ok (.istore 5, 2) := by decide +kernel
theorem dX6_byRule_120 : decode cX6_byRule 120 = .ok (.iinc 6 1, 3) := by decide +kernel
theorem dX6_byRule_123 : decode cX6_byRule 123 = .ok (.goto (-37), 3) := by decide +kernel
theorem dX6_byRule_126 : decode cX6_byRule 126 = .ok (.aload_n 0, 1) := by decide +kernel
theorem dX6_byRule_127 : decode cX6_byRule 127 = .ok (.iload_n 2, 1) := by decide +kernel
theorem dX6_byRule_128 : decode cX6_byRule 128 = .ok (.invokevirtual 97, 3) := by decide +kernel
theorem dX6_byRule_131 : decode cX6_byRule 131 = .ok (.ifCond .ne 7, 3) := by decide +kernel
theorem dX6_byRule_134 : decode cX6_byRule 134 = .ok (.iconst 1, 1) := by decide +kernel
theorem dX6_byRule_135 : decode cX6_byRule 135 = .ok (.goto 4, 3) := by decide +kernel
theorem dX6_byRule_138 : decode cX6_byRule 138 = .ok (.iconst 0, 1) := by decide +kernel
theorem dX6_byRule_139 : decode cX6_byRule 139 = .ok (.istore 6, 2) := by decide +kernel
theorem dX6_byRule_141 : decode cX6_byRule 141 = .ok (.iconst 0, 1) := by decide +kernel
theorem dX6_byRule_142 : decode cX6_byRule 142 = .ok (.istore 7, 2) := by decide +kernel
theorem dX6_byRule_144 : decode cX6_byRule 144 = .ok (.iload 7, 2) := by decide +kernel
theorem dX6_byRule_146 : decode cX6_byRule 146 = .ok (.aload_n 0, 1) := by decide +kernel
theorem dX6_byRule_147 : decode cX6_byRule 147 = .ok (.getfield 31, 3) := by decide +kernel
theorem dX6_byRule_150 : decode cX6_byRule 150 = .ok (.iload_n 1, 1) := by decide +kernel
theorem dX6_byRule_151 : decode cX6_byRule 151 = .ok (.iaload, 1) := by decide +kernel
theorem dX6_byRule_152 : decode cX6_byRule 152 = .ok (.if_icmp .ge 41, 3) := by decide +kernel
theorem dX6_byRule_155 : decode cX6_byRule 155 = .ok (.iload 6, 2) := by decide +kernel
theorem dX6_byRule_157 : decode cX6_byRule 157 = .ok (.ifCond .ne 23, 3) := by decide +kernel
theorem dX6_byRule_160 : decode cX6_byRule 160 = .ok (.aload_n 0, 1) := by decide +kernel
theorem dX6_byRule_161 : decode cX6_byRule 161 = .ok (.iload_n 2, 1) := by decide +kernel
theorem dX6_byRule_162 : decode cX6_byRule 162 = .ok (.aload_n 0, 1) := by decide +kernel
theorem dX6_byRule_163 : decode cX6_byRule 163 = .ok (.getfield 34, 3) := by decide +kernel
theorem dX6_byRule_166 : decode cX6_byRule 166 = .ok (.bipush 16, 2) := by decide +kernel
theorem dX6_byRule_168 : decode cX6_byRule 168 = .ok (.iload_n 1, 1) := by decide +kernel
theorem dX6_byRule_169 : decode cX6_byRule 169 = .ok (.imul, 1) := by decide +kernel
theorem dX6_byRule_170 : decode cX6_byRule 170 = .ok (.iload 7, 2) := by decide +kernel
theorem dX6_byRule_172 : decode cX6_byRule 172 = .ok (.iadd, 1) := by decide +kernel
theorem dX6_byRule_173 : decode cX6_byRule 173 = .ok (.iaload, 1) := by decide +kernel
theorem dX6_byRule_174 : decode cX6_byRule 174 = .ok (.invokevirtual 131, 3) := by decide +kernel
theorem dX6_byRule_177 : decode cX6_byRule 177 = .ok (.ifCond .eq 7, 3) := by decide +kernel
theorem dX6_byRule_180 : decode cX6_byRule 180 = .ok (.iconst 1, 1) := by decide +kernel
theorem dX6_byRule_181 : decode cX6_byRule 181 = .ok (.goto 4, 3) := by decide +kernel
theorem dX6_byRule_184 : decode cX6_byRule 184 = .ok (.iconst 0, 1) := by decide +kernel
theorem dX6_byRule_185 : decode cX6_byRule 185 = .ok (.istore 6, 2) := by decide +kernel
theorem dX6_byRule_187 : decode cX6_byRule 187 = .ok (.iinc 7 1, 3) := by decide +kernel
theorem dX6_byRule_190 : decode cX6_byRule 190 = .ok (.goto (-46), 3) := by decide +kernel
theorem dX6_byRule_193 : decode cX6_byRule 193 = .ok (.iload 6, 2) := by decide +kernel
theorem dX6_byRule_195 : decode cX6_byRule 195 = .ok (.ifCond .ne 5, 3) := by decide +kernel
theorem dX6_byRule_198 : decode cX6_byRule 198 = .ok (.iconst 0, 1) := by decide +kernel
theorem dX6_byRule_199 : decode cX6_byRule 199 = .ok (.ireturn, 1) := by decide +kernel
theorem dX6_byRule_200 : decode cX6_byRule 200 = .ok (.iinc 4 1, 3) := by decide +kernel
theorem dX6_byRule_203 : decode cX6_byRule 203 = .ok (.goto (-130), 3) := by decide +kernel
theorem dX6_byRule_206 : decode cX6_byRule 206 = .ok (.iconst 1, 1) := by decide +kernel
theorem dX6_byRule_207 : decode cX6_byRule 207 = .ok (.ireturn, 1) := by decide +kernel
theorem dX6_all_0 : decode cX6_all 0 = .ok (.aload_n 0, 1) := by decide +kernel
theorem dX6_all_1 : decode cX6_all 1 = .ok (.iconst 0, 1) := by decide +kernel
theorem dX6_all_2 : decode cX6_all 2 = .ok (.putfield 134, 3) := by decide +kernel
theorem dX6_all_5 : decode cX6_all 5 = .ok (.iconst 0, 1) := by decide +kernel
theorem dX6_all_6 : decode cX6_all 6 = .ok (.istore_n 1, 1) := by decide +kernel
theorem dX6_all_7 : decode cX6_all 7 = .ok (.iload_n 1, 1) := by decide +kernel
theorem dX6_all_8 : decode cX6_all 8 = .ok (.bipush 16, 2) := by decide +kernel
theorem dX6_all_10 : decode cX6_all 10 = .ok (.if_icmp .ge 23, 3) := by decide +kernel
theorem dX6_all_13 : decode cX6_all 13 = .ok (.aload_n 0, 1) := by decide +kernel
theorem dX6_all_14 : decode cX6_all 14 = .ok (.getfield 37, 3) := by decide +kernel
theorem dX6_all_17 : decode cX6_all 17 = .ok (.iload_n 1, 1) := by decide +kernel
theorem dX6_all_18 : decode cX6_all 18 = .ok (.iconst 1, 1) := by decide +kernel
theorem dX6_all_19 : decode cX6_all 19 = .ok (.aload_n 0, 1) := by decide +kernel
theorem dX6_all_20 : decode cX6_all 20 = .ok (.getfield 60, 3) := by decide +kernel
theorem dX6_all_23 : decode cX6_all 23 = .ok (.ishl, 1) := by decide +kernel
theorem dX6_all_24 : decode cX6_all 24 = .ok (.iconst 1, 1) := by decide +kernel
theorem dX6_all_25 : decode cX6_all 25 = .ok (.isub, 1) := by decide +kernel
theorem dX6_all_26 : decode cX6_all 26 = .ok (.iastore, 1) := by decide +kernel
theorem dX6_all_27 : decode cX6_all 27 = .ok (.iinc 1 1, 3) := by decide +kernel
theorem dX6_all_30 : decode cX6_all 30 = .ok (.goto (-23), 3) := by decide +kernel
theorem dX6_all_33 : decode cX6_all 33 = .ok (.return_, 1) := by decide +kernel
set_option maxRecDepth 20000 in
theorem ggX6_make_X6_cellOf : GoodIn wsX6_make wsX6_cellOf := goodIn_r _ [7, 8, 13, 14, 15, 16, 17, 18, 19, 20, 21, 22, 23, 24, 25, 26, 27, 28, 29, 30, 31, 32, 33, 34, 35] (by decide +kernel) (by decide +kernel)
set_option maxRecDepth 20000 in
theorem gX6_make_X6_cellOf : GoodIn wsX6_make (wsV RX6 125 RX6 yX6_cellOf wsX6_cellOf) := goodIn_app (goodIn_of _ (by decide +kernel)) ggX6_make_X6_cellOf
set_option maxRecDepth 20000 in
theorem ggX6_make_X6_symbolOf : GoodIn wsX6_make wsX6_symbolOf := goodIn_r _ [12, 8, 13, 14, 15, 16, 17, 18, 19, 20, 21, 22, 23, 24, 25, 26, 27, 28, 29, 30, 31, 32, 33, 34, 35] (by decide +kernel) (by decide +kernel)
set_option maxRecDepth 20000 in
theorem gX6_make_X6_symbolOf : GoodIn wsX6_make (wsV RX6 128 RX6 yX6_symbolOf wsX6_symbolOf) := goodIn_app (goodIn_of _ (by decide +kernel)) ggX6_make_X6_symbolOf
theorem dX6_make_0 : decode cX6_make 0 = .ok (.aload_n 0, 1) := by decide +kernel
theorem dX6_make_1 : decode cX6_make 1 = .ok (.iload_n 1, 1) := by decide +kernel
theorem dX6_make_2 : decode cX6_make 2 = .ok (.invokevirtual 125, 3) := by decide +kernel
theorem dX6_make_5 : decode cX6_make 5 = .ok (.istore_n 2, 1) := by decide +kernel
theorem dX6_make_6 : decode cX6_make 6 = .ok (.iconst 1, 1) := by decide +kernel
theorem dX6_make_7 : decode cX6_make 7 = .ok (.aload_n 0, 1) := by decide +kernel
theorem dX6_make_8 : decode cX6_make 8 = .ok (.iload_n 1, 1) := by decide +kernel
theorem dX6_make_9 : decode cX6_make 9 = .ok (.invokevirtual 128, 3) := by decide +kernel
theorem dX6_make_12 : decode cX6_make 12 = .ok (.ishl, 1) := by decide +kernel
theorem dX6_make_13 : decode cX6_make 13 = .ok (.istore_n 3, 1) := by decide +kernel
theorem dX6_make_14 : decode cX6_make 14 = .ok (.aload_n 0, 1) := by decide +kernel
theorem dX6_make_15 : decode cX6_make 15 = .ok (.getfield 37, 3) := by decide +kernel
theorem dX6_make_18 : decode cX6_make 18 = .ok (.iload_n 2, 1) := by decide +kernel
theorem dX6_make_19 : decode cX6_make 19 = .ok (.iload_n 1, 1) := by decide +kernel
theorem dX6_make_20 : decode cX6_make 20 = .ok (.iconst 2, 1) := by decide +kernel
theorem dX6_make_21 : decode cX6_make 21 = .ok (.irem, 1) := by decide +kernel
theorem dX6_make_22 : decode cX6_make 22 = .ok (.iconst 1, 1) := by decide +kernel
theorem dX6_make_23 : decode cX6_make 23 = .ok (.if_icmp .ne 14, 3) := by decide +kernel
theorem dX6_make_26 : decode cX6_make 26 = .ok (.aload_n 0, 1) := by decide +kernel
theorem dX6_make_27 : decode cX6_make 27 = .ok (.getfield 37, 3) := by decide +kernel
theorem dX6_make_30 : decode cX6_make 30 = .ok (.iload_n 2, 1) := by decide +kernel
theorem dX6_make_31 : decode cX6_make 31 = .ok (.iaload, 1) := by decide +kernel
theorem dX6_make_32 : decode cX6_make 32 = .ok (.iload_n 3, 1) := by decide +kernel
theorem dX6_make_33 : decode cX6_make 33 = .ok (.iand, 1) := by decide +kernel
theorem dX6_make_34 : decode cX6_make 34 = .ok (.goto 13, 3) := by decide +kernel
theorem dX6_make_37 : decode cX6_make 37 = .ok (.aload_n 0, 1) := by decide +kernel
theorem dX6_make_38 : decode cX6_make 38 = .ok (.getfield 37, 3) := by decide +kernel
theorem dX6_make_41 : decode cX6_make 41 = .ok (.iload_n 2, 1) := by decide +kernel
theorem dX6_make_42 : decode cX6_make 42 = .ok (.iaload, 1) := by decide +kernel
theorem dX6_make_43 : decode cX6_make 43 = .ok (.iload_n 3, 1) := by decide +kernel
theorem dX6_make_44 : decode cX6_make 44 = .ok (.iconst (-1), 1) := by decide +kernel
theorem dX6_make_45 : decode cX6_make 45 = .ok (.ixor, 1) := by decide +kernel
theorem dX6_make_46 : decode cX6_make 46 = .ok (.iand, 1) := by decide +kernel
theorem dX6_make_47 : decode cX6_make 47 = .ok (.iastore, 1) := by decide +kernel
theorem dX6_make_48 : decode cX6_make 48 = .ok (.aload_n 0, 1) := by decide +kernel
theorem dX6_make_49 : decode cX6_make 49 = .ok (.aload_n 0, 1) := by decide +kernel
theorem dX6_make_50 : decode cX6_make 50 = .ok (.getfield 134, 3) := by decide +kernel
theorem dX6_make_53 : decode cX6_make 53 = .ok (.ifCond .ne 12, 3) := by decide +kernel
theorem dX6_make_56 : decode cX6_make 56 = .ok (.aload_n 0, 1) := by decide +kernel
theorem dX6_make_57 : decode cX6_make 57 = .ok (.getfield 37, 3) := by decide +kernel
theorem dX6_make_60 : decode cX6_make 60 = .ok (.iload_n 2, 1) := by decide +kernel
theorem dX6_make_61 : decode cX6_make 61 = .ok (.iaload, 1) := by decide +kernel
theorem dX6_make_62 : decode cX6_make 62 = .ok (.ifCond .ne 7, 3) := by decide +kernel
theorem dX6_make_65 : decode cX6_make 65 = .ok (.iconst 1, 1) := by decide +kernel
theorem dX6_make_66 : decode cX6_make 66 = .ok (.goto 4, 3) := by decide +kernel
theorem dX6_make_69 : decode cX6_make 69 = .ok (.iconst 0, 1) := by decide +kernel
theorem dX6_make_70 : decode cX6_make 70 = .ok (.putfield 134, 3) := by decide +kernel
theorem dX6_make_73 : decode cX6_make 73 = .ok (.return_, 1) := by decide +kernel
set_option maxRecDepth 20000 in
theorem ggX6_how_X6_symbolOf : GoodIn wsX6_how wsX6_symbolOf := goodIn_r _ [6, 7, 12, 13, 14, 15, 16, 17, 18, 19, 20, 21, 22, 23, 24, 25, 26, 27, 28, 29, 30, 31, 32, 33, 34] (by decide +kernel) (by decide +kernel)
set_option maxRecDepth 20000 in
theorem gX6_how_X6_symbolOf : GoodIn wsX6_how (wsV RX6 128 RX6 yX6_symbolOf wsX6_symbolOf) := goodIn_app (goodIn_of _ (by decide +kernel)) ggX6_how_X6_symbolOf
set_option maxRecDepth 20000 in
theorem ggX6_how_X6_cellOf : GoodIn wsX6_how wsX6_cellOf := goodIn_r _ [11, 7, 12, 13, 14, 15, 16, 17, 18, 19, 20, 21, 22, 23, 24, 25, 26, 27, 28, 29, 30, 31, 32, 33, 34] (by decide +kernel) (by decide +kernel)
set_option maxRecDepth 20000 in
theorem gX6_how_X6_cellOf : GoodIn wsX6_how (wsV RX6 125 RX6 yX6_cellOf wsX6_cellOf) := goodIn_app (goodIn_of _ (by decide +kernel)) ggX6_how_X6_cellOf
theorem dX6_how_0 : decode cX6_how 0 = .ok (.iconst 1, 1) := by decide +kernel
theorem dX6_how_1 : decode cX6_how 1 = .ok (.aload_n 0, 1) := by decide +kernel
theorem dX6_how_2 : decode cX6_how 2 = .ok (.iload_n 1, 1) := by decide +kernel
theorem dX6_how_3 : decode cX6_how 3 = .ok (.invokevirtual 128, 3) := by decide +kernel
theorem dX6_how_6 : decode cX6_how 6 = .ok (.ishl, 1) := by decide +kernel
theorem dX6_how_7 : decode cX6_how 7 = .ok (.istore_n 2, 1) := by decide +kernel
theorem dX6_how_8 : decode cX6_how 8 = .ok (.aload_n 0, 1) := by decide +kernel
theorem dX6_how_9 : decode cX6_how 9 = .ok (.getfield 37, 3) := by decide +kernel
theorem dX6_how_12 : decode cX6_how 12 = .ok (.aload_n 0, 1) := by decide +kernel
theorem dX6_how_13 : decode cX6_how 13 = .ok (.iload_n 1, 1) := by decide +kernel
theorem dX6_how_14 : decode cX6_how 14 = .ok (.invokevirtual 125, 3) := by decide +kernel
theorem dX6_how_17 : decode cX6_how 17 = .ok (.iaload, 1) := by decide +kernel
theorem dX6_how_18 : decode cX6_how 18 = .ok (.istore_n 3, 1) := by decide +kernel
theorem dX6_how_19 : decode cX6_how 19 = .ok (.iload_n 3, 1) := by decide +kernel
theorem dX6_how_20 : decode cX6_how 20 = .ok (.iload_n 2, 1) := by decide +kernel
theorem dX6_how_21 : decode cX6_how 21 = .ok (.if_icmp .ne 7, 3) := by decide +kernel
theorem dX6_how_24 : decode cX6_how 24 = .ok (.iconst 1, 1) := by decide +kernel
theorem dX6_how_25 : decode cX6_how 25 = .ok (.goto 14, 3) := by decide +kernel
theorem dX6_how_28 : decode cX6_how 28 = .ok (.iload_n 3, 1) := by decide +kernel
theorem dX6_how_29 : decode cX6_how 29 = .ok (.iload_n 2, 1) := by decide +kernel
theorem dX6_how_30 : decode cX6_how 30 = .ok (.iand, 1) := by decide +kernel
theorem dX6_how_31 : decode cX6_how 31 = .ok (.ifCond .ne 7, 3) := by decide +kernel
theorem dX6_how_34 : decode cX6_how 34 = .ok (.iconst (-1), 1) := by decide +kernel
theorem dX6_how_35 : decode cX6_how 35 = .ok (.goto 4, 3) := by decide +kernel
theorem dX6_how_38 : decode cX6_how 38 = .ok (.iconst 0, 1) := by decide +kernel
theorem dX6_how_39 : decode cX6_how 39 = .ok (.istore 4, 2) := by decide +kernel
theorem dX6_how_41 : decode cX6_how 41 = .ok (.iload_n 1, 1) := by decide +kernel
theorem dX6_how_42 : decode cX6_how 42 = .ok (.iconst 2, 1) := by decide +kernel
theorem dX6_how_43 : decode cX6_how 43 = .ok (.irem, 1) := by decide +kernel
theorem dX6_how_44 : decode cX6_how 44 = .ok (.iconst 1, 1) := by decide +kernel
theorem dX6_how_45 : decode cX6_how 45 = .ok (.if_icmp .ne 8, 3) := by decide +kernel
theorem dX6_how_48 : decode cX6_how 48 = .ok (.iload 4, 2) := by decide +kernel
theorem dX6_how_50 : decode cX6_how 50 = .ok (.goto 6, 3) := by decide +kernel
theorem dX6_how_53 : decode cX6_how 53 = .ok (.iload 4, 2) := by decide +kernel
theorem dX6_how_55 : decode cX6_how 55 = .ok (.ineg, 1) := by decide +kernel
theorem dX6_how_56 : decode cX6_how 56 = .ok (.ireturn, 1) := by decide +kernel
set_option maxRecDepth 20000 in
theorem ggX6_units_X6_how : GoodIn wsX6_units wsX6_how := goodIn_r _ [8, 9, 10, 11, 12, 7, 13, 14, 15, 16, 17, 18, 23, 24, 25, 26, 27, 28, 29, 30, 31, 32, 33, 34, 35, 36, 37, 38, 39, 40, 41, 42, 43, 44, 45] (by decide +kernel) (by decide +kernel)
set_option maxRecDepth 20000 in
theorem gX6_units_X6_how : GoodIn wsX6_units (wsV RX6 138 RX6 yX6_how wsX6_how) := goodIn_app (goodIn_of _ (by decide +kernel)) ggX6_units_X6_how
set_option maxRecDepth 20000 in
theorem ggX6_units_X6_make : GoodIn wsX6_units wsX6_make := goodIn_r _ [22, 9, 1, 15, 16, 17, 7, 18, 14, 10, 11, 12, 13, 23, 24, 25, 26, 27, 28, 29, 30, 31, 32, 33, 34, 35, 36, 37, 38, 39, 40, 41, 42, 43, 44, 45] (by decide +kernel) (by decide +kernel)
set_option maxRecDepth 20000 in
theorem gX6_units_X6_make : GoodIn wsX6_units (wsV RX6 141 RX6 yX6_make wsX6_make) := goodIn_app (goodIn_of _ (by decide +kernel)) ggX6_units_X6_make
theorem dX6_units_0 : decode cX6_units 0 = .ok (.aload_n 0, 1) := by decide +kernel
theorem dX6_units_1 : decode cX6_units 1 = .ok (.getfield 134, 3) := by decide +kernel
theorem dX6_units_4 : decode cX6_units 4 = .ok (.ifCond .ne 7, 3) := by decide +kernel
theorem dX6_units_7 : decode cX6_units 7 = .ok (.iconst 1, 1) := by decide +kernel
theorem dX6_units_8 : decode cX6_units 8 = .ok (.goto 4, 3) := by decide +kernel
theorem dX6_units_11 : decode cX6_units 11 = .ok (.iconst 0, 1) := by decide +kernel
theorem dX6_units_12 : decode cX6_units 12 = .ok (.istore_n 2, 1) := by decide +kernel
theorem dX6_units_13 : decode cX6_units 13 = .ok (.iload_n 2, 1) := by decide +kernel
theorem dX6_units_14 : decode cX6_units 14 = .ok (.ifCond .eq 164, 3) := by decide +kernel
theorem dX6_units_17 : decode cX6_units 17 = .ok (.iconst 0, 1) := by decide +kernel
theorem dX6_units_18 : decode cX6_units 18 = .ok (.istore_n 2, 1) := by decide +kernel
theorem dX6_units_19 : decode cX6_units 19 = .ok (.iconst 0, 1) := by decide +kernel
theorem dX6_units_20 : decode cX6_units 20 = .ok (.istore_n 3, 1) := by decide +kernel
theorem dX6_units_21 : decode cX6_units 21 = .ok (.iload_n 3, 1) := by decide +kernel
theorem dX6_units_22 : decode cX6_units 22 = .ok (.iload_n 1, 1) := by decide +kernel
theorem dX6_units_23 : decode cX6_units 23 = .ok (.if_icmp .ge 135, 3) := by decide +kernel
theorem dX6_units_26 : decode cX6_units 26 = .ok (.aload_n 0, 1) := by decide +kernel
theorem dX6_units_27 : decode cX6_units 27 = .ok (.getfield 134, 3) := by decide +kernel
theorem dX6_units_30 : decode cX6_units 30 = .ok (.ifCond .ne 128, 3) := by decide +kernel
theorem dX6_units_33 : decode cX6_units 33 = .ok (.iconst (-1), 1) := by decide +kernel
theorem dX6_units_34 : decode cX6_units 34 = .ok (.istore 4, 2) := by decide +kernel
theorem dX6_units_36 : decode cX6_units 36 = .ok (.iconst 0, 1) := by decide +kernel
theorem dX6_units_37 : decode cX6_units 37 = .ok (.istore 5, 2) := by decide +kernel
theorem dX6_units_39 : decode cX6_units 39 = .ok (.iconst 0, 1) := by decide +kernel
theorem dX6_units_40 : decode cX6_units 40 = .ok (.istore 6, 2) := by decide +kernel
theorem dX6_units_42 : decode cX6_units 42 = .ok (.iconst 0, 1) := by decide +kernel
theorem dX6_units_43 : decode cX6_units 43 = .ok (.istore 7, 2) := by decide +kernel
theorem dX6_units_45 : decode cX6_units 45 = .ok (.iload 7, 2) := by decide +kernel
theorem dX6_units_47 : decode cX6_units 47 = .ok (.aload_n 0, 1) := by decide +kernel
theorem dX6_units_48 : decode cX6_units 48 = .ok (.getfield 31, 3) := by decide +kernel
theorem dX6_units_51 : decode cX6_units 51 = .ok (.iload_n 3, 1) := by decide +kernel
theorem dX6_units_52 : decode cX6_units 52 = .ok (.iaload, 1) := by decide +kernel
theorem dX6_units_53 : decode cX6_units 53 = .ok (.if_icmp .ge 64, 3) := by decide +kernel
theorem dX6_units_56 : decode cX6_units 56 = .ok (.aload_n 0, 1) := by decide +kernel
theorem dX6_units_57 : decode cX6_units 57 = .ok (.getfield 34, 3) := by decide +kernel
theorem dX6_units_60 : decode cX6_units 60 = .ok (.bipush 16, 2) := by decide +kernel
theorem dX6_units_62 : decode cX6_units 62 = .ok (.iload_n 3, 1) := by decide +kernel
theorem dX6_units_63 : decode cX6_units 63 = .ok (.imul, 1) := by decide +kernel
theorem dX6_units_64 : decode cX6_units 64 = .ok (.iload 7, 2) := by decide +kernel
theorem dX6_units_66 : decode cX6_units 66 = .ok (.iadd, 1) := by decide +kernel
theorem dX6_units_67 : decode cX6_units 67 = .ok (.iaload, 1) := by decide +kernel
theorem dX6_units_68 : decode cX6_units 68 = .ok (.istore 8, 2) := by decide +kernel
theorem dX6_units_70 : decode cX6_units 70 = .ok (.iload 6, 2) := by decide +kernel
theorem dX6_units_72 : decode cX6_units 72 = .ok (.ifCond .ne 13, 3) := by decide +kernel
theorem dX6_units_75 : decode cX6_units 75 = .ok (.aload_n 0, 1) := by decide +kernel
theorem dX6_units_76 : decode cX6_units 76 = .ok (.iload 8, 2) := by decide +kernel
theorem dX6_units_78 : decode cX6_units 78 = .ok (.invokevirtual 138, 3) := by decide +kernel
theorem dX6_units_81 : decode cX6_units 81 = .ok (.iconst 1, 1) := by decide +kernel
theorem dX6_units_82 : decode cX6_units 82 = .ok (.if_icmp .ne 7, 3) := by decide +kernel
theorem dX6_units_85 : decode cX6_units 85 = .ok (.iconst 1, 1) := by decide +kernel
theorem dX6_units_86 : decode cX6_units 86 = .ok (.goto 4, 3) := by decide +kernel
theorem dX6_units_89 : decode cX6_units 89 = .ok (.iconst 0, 1) := by decide +kernel
theorem dX6_units_90 : decode cX6_units 90 = .ok (.istore 6, 2) := by decide +kernel
theorem dX6_units_92 : decode cX6_units 92 = .ok (.aload_n 0, 1) := by decide +kernel
theorem dX6_units_93 : decode cX6_units 93 = .ok (.iload 8, 2) := by decide +kernel
theorem dX6_units_95 : decode cX6_units 95 = .ok (.invokevirtual 138, 3) := by decide +kernel
theorem dX6_units_98 : decode cX6_units 98 = .ok (.ifCond .eq 6, 3) := by decide +kernel
theorem dX6_units_101 : decode cX6_units 101 = .ok (.goto 10, 3) := by decide +kernel
theorem dX6_units_104 : decode cX6_units 104 = .ok (.iload 8, 2) := by decide +kernel
theorem dX6_units_106 : decode cX6_units 106 = .ok (.istore 4, 2) := by decide +kernel
theorem dX6_units_108 : decode cX6_units 108 = .ok (.iinc 5 1, 3) := by decide +kernel
theorem dX6_units_111 : decode cX6_units 111 = .ok (.iinc 7 1, 3) := by decide +kernel
theorem dX6_units_114 : decode cX6_units 114 = .ok (.goto (-69), 3) := by decide +kernel
theorem dX6_units_117 : decode cX6_units 117 = .ok (.iload 6, 2) := by decide +kernel
theorem dX6_units_119 : decode cX6_units 119 = .ok (.ifCond .ne 33, 3) := by decide +kernel
theorem dX6_units_122 : decode cX6_units 122 = .ok (.iload 5, 2) := by decide +kernel
theorem dX6_units_124 : decode cX6_units 124 = .ok (.iconst 1, 1) := by decide +kernel
theorem dX6_units_125 : decode cX6_units 125 = .ok (.if_icmp .le 6, 3) := by decide +kernel
theorem dX6_units_128 : decode cX6_units 128 = .ok (.goto 24, 3) := by decide +kernel
theorem dX6_units_131 : decode cX6_units 131 = .ok (.iload 5, 2) := by decide +kernel
theorem dX6_units_133 : decode cX6_units 133 = .ok (.ifCond .ne 11, 3) := by decide +kernel
theorem dX6_units_136 : decode cX6_units 136 = .ok (.aload_n 0, 1) := by decide +kernel
theorem dX6_units_137 : decode cX6_units 137 = .ok (.iconst 1, 1) := by decide +kernel
theorem dX6_units_138 : decode cX6_units 138 = .ok (.putfield 134, 3) := by decide +kernel
theorem dX6_units_141 : decode cX6_units 141 = .ok (.goto 11, 3) := by decide +kernel
theorem dX6_units_144 : decode cX6_units 144 = .ok (.aload_n 0, 1) := by decide +kernel
theorem dX6_units_145 : decode cX6_units 145 = .ok (.iload 4, 2) := by decide +kernel
theorem dX6_units_147 : decode cX6_units 147 = .ok (.invokevirtual 141, 3) := by decide +kernel
theorem dX6_units_150 : decode cX6_units 150 = .ok (.iconst 1, 1) := by decide +kernel
theorem dX6_units_151 : decode cX6_units 151 = .ok (.istore_n 2, 1) := by decide +kernel
theorem dX6_units_152 : decode cX6_units 152 = .ok (.iinc 3 1, 3) := by decide +kernel
theorem dX6_units_155 : decode cX6_units 155 = .ok (.goto (-134), 3) := by decide +kernel
theorem dX6_units_158 : decode cX6_units 158 = .ok (.iload_n 2, 1) := by decide +kernel
theorem dX6_units_159 : decode cX6_units 159 = .ok (.ifCond .eq 14, 3) := by decide +kernel
theorem dX6_units_162 : decode cX6_units 162 = .ok (.aload_n 0, 1) := by decide +kernel
theorem dX6_units_163 : decode cX6_units 163 = .ok (.getfield 134, 3) := by decide +kernel
theorem dX6_units_166 : decode cX6_units 166 = .ok (.ifCond .ne 7, 3) := by decide +kernel
theorem dX6_units_169 : decode cX6_units 169 = .ok (.iconst 1, 1) := by decide +kernel
theorem dX6_units_170 : decode cX6_units 170 = .ok (.goto 4, 3) := by decide +kernel
theorem dX6_units_173 : decode cX6_units 173 = .ok (.iconst 0, 1) := by decide +kernel
theorem dX6_units_174 : decode cX6_units 174 = .ok (.istore_n 2, 1) := by decide +kernel
theorem dX6_units_175 : decode cX6_units 175 = .ok (.goto (-162), 3) := by decide +kernel
theorem dX6_units_178 : decode cX6_units 178 = .ok (.return_, 1) := by decide +kernel
set_option maxRecDepth 20000 in
theorem ggX6_turned_X6_all : GoodIn wsX6_turned wsX6_all := goodIn_r _ [7, 8, 9, 10, 31, 32, 33, 34, 35, 36, 37, 38, 39, 40, 41, 42, 43, 44, 45, 46, 47, 48, 49, 50, 51, 52, 53] (by decide +kernel) (by decide +kernel)
set_option maxRecDepth 20000 in
theorem gX6_turned_X6_all : GoodIn wsX6_turned (wsV RX6 145 RX6 yX6_all wsX6_all) := goodIn_app (goodIn_of _ (by decide +kernel)) ggX6_turned_X6_all
set_option maxRecDepth 20000 in
theorem ggX6_turned_X6_make : GoodIn wsX6_turned wsX6_make := goodIn_r _ [14, 9, 8, 15, 16, 17, 6, 18, 10, 19, 20, 21, 22, 31, 32, 33, 34, 35, 36, 37, 38, 39, 40, 41, 42, 43, 44, 45, 46, 47, 48, 49, 50, 51, 52, 53] (by decide +kernel) (by decide +kernel)
set_option maxRecDepth 20000 in
theorem gX6_turned_X6_make : GoodIn wsX6_turned (wsV RX6 141 RX6 yX6_make wsX6_make) := goodIn_app (goodIn_of _ (by decide +kernel)) ggX6_turned_X6_make
set_option maxRecDepth 20000 in
theorem ggX6_turned_X6_units : GoodIn wsX6_turned wsX6_units := goodIn_r _ [26, 8, 1, 2, 27, 28, 29, 6, 30, 9, 19, 20, 21, 22, 10, 15, 16, 17, 18, 11, 12, 13, 14, 31, 32, 33, 34, 35, 36, 37, 38, 39, 40, 41, 42, 43, 44, 45, 46, 47, 48, 49, 50, 51, 52, 53] (by decide +kernel) (by decide +kernel)
set_option maxRecDepth 20000 in
theorem gX6_turned_X6_units : GoodIn wsX6_turned (wsV RX6 148 RX6 yX6_units wsX6_units) := goodIn_app (goodIn_of _ (by decide +kernel)) ggX6_turned_X6_units
theorem dX6_turned_0 : decode cX6_turned 0 = .ok (.aload_n 0, 1) := by decide +kernel
theorem dX6_turned_1 : decode cX6_turned 1 = .ok (.invokevirtual 145, 3) := by decide +kernel
theorem dX6_turned_4 : decode cX6_turned 4 = .ok (.iconst 0, 1) := by decide +kernel
theorem dX6_turned_5 : decode cX6_turned 5 = .ok (.istore_n 2, 1) := by decide +kernel
theorem dX6_turned_6 : decode cX6_turned 6 = .ok (.iload_n 2, 1) := by decide +kernel
theorem dX6_turned_7 : decode cX6_turned 7 = .ok (.aload_n 0, 1) := by decide +kernel
theorem dX6_turned_8 : decode cX6_turned 8 = .ok (.getfield 31, 3) := by decide +kernel
theorem dX6_turned_11 : decode cX6_turned 11 = .ok (.iload_n 1, 1) := by decide +kernel
theorem dX6_turned_12 : decode cX6_turned 12 = .ok (.iaload, 1) := by decide +kernel
theorem dX6_turned_13 : decode cX6_turned 13 = .ok (.if_icmp .ge 26, 3) := by decide +kernel
theorem dX6_turned_16 : decode cX6_turned 16 = .ok (.aload_n 0, 1) := by decide +kernel
theorem dX6_turned_17 : decode cX6_turned 17 = .ok (.aload_n 0, 1) := by decide +kernel
theorem dX6_turned_18 : decode cX6_turned 18 = .ok (.getfield 34, 3) := by decide +kernel
theorem dX6_turned_21 : decode cX6_turned 21 = .ok (.bipush 16, 2) := by decide +kernel
theorem dX6_turned_23 : decode cX6_turned 23 = .ok (.iload_n 1, 1) := by decide +kernel
theorem dX6_turned_24 : decode cX6_turned 24 = .ok (.imul, 1) := by decide +kernel
theorem dX6_turned_25 : decode cX6_turned 25 = .ok (.iload_n 2, 1) := by decide +kernel
theorem dX6_turned_26 : decode cX6_turned 26 = .ok (.iadd, 1) := by decide +kernel
theorem dX6_turned_27 : decode cX6_turned 27 = .ok (.iaload, 1) := by decide +kernel
theorem dX6_turned_28 : decode cX6_turned 28 = .ok (.iconst 1, 1) := by decide +kernel
theorem dX6_turned_29 : decode cX6_turned 29 = .ok (.ixor, 1) := by decide +kernel
theorem dX6_turned_30 : decode cX6_turned 30 = .ok (.invokevirtual 141, 3) := by decide +kernel
theorem dX6_turned_33 : decode cX6_turned 33 = .ok (.iinc 2 1, 3) := by decide +kernel
theorem dX6_turned_36 : decode cX6_turned 36 = .ok (.goto (-30), 3) := by decide +kernel
theorem dX6_turned_39 : decode cX6_turned 39 = .ok (.aload_n 0, 1) := by decide +kernel
theorem dX6_turned_40 : decode cX6_turned 40 = .ok (.iload_n 1, 1) := by decide +kernel
theorem dX6_turned_41 : decode cX6_turned 41 = .ok (.invokevirtual 148, 3) := by decide +kernel
theorem dX6_turned_44 : decode cX6_turned 44 = .ok (.return_, 1) := by decide +kernel
set_option maxRecDepth 20000 in
theorem ggX6_bySplit_X6_isCell : GoodIn wsX6_bySplit wsX6_isCell := goodIn_r _ [10, 11, 12, 13, 9, 14, 15, 16, 47, 48, 49, 50, 51, 52, 53, 54, 55, 56, 57, 58, 59, 60, 61, 62, 63, 64, 65, 66, 67, 68, 69] (by decide +kernel) (by decide +kernel)
set_option maxRecDepth 20000 in
theorem gX6_bySplit_X6_isCell : GoodIn wsX6_bySplit (wsV RX6 76 RX6 yX6_isCell wsX6_isCell) := goodIn_app (goodIn_of _ (by decide +kernel)) ggX6_bySplit_X6_isCell
set_option maxRecDepth 20000 in
theorem ggX6_bySplit_X6_turned : GoodIn wsX6_bySplit wsX6_turned := goodIn_r _ [20, 21, 22, 23, 24, 25, 9, 26, 2, 4, 5, 27, 28, 29, 30, 31, 32, 33, 34, 35, 36, 37, 38, 39, 40, 41, 42, 43, 44, 45, 46, 47, 48, 49, 50, 51, 52, 53, 54, 55, 56, 57, 58, 59, 60, 61, 62, 63, 64, 65, 66, 67, 68, 69] (by decide +kernel) (by decide +kernel)
set_option maxRecDepth 20000 in
theorem gX6_bySplit_X6_turned : GoodIn wsX6_bySplit (wsV RX6 151 RX6 yX6_turned wsX6_turned) := goodIn_app (goodIn_of _ (by decide +kernel)) ggX6_bySplit_X6_turned
set_option maxRecDepth 20000 in
theorem ggX6_bySplit_X6_units : GoodIn wsX6_bySplit wsX6_units := goodIn_r _ [42, 2, 21, 22, 43, 44, 45, 9, 46, 4, 35, 36, 37, 38, 5, 31, 32, 33, 34, 27, 28, 29, 30, 47, 48, 49, 50, 51, 52, 53, 54, 55, 56, 57, 58, 59, 60, 61, 62, 63, 64, 65, 66, 67, 68, 69] (by decide +kernel) (by decide +kernel)
set_option maxRecDepth 20000 in
theorem gX6_bySplit_X6_units : GoodIn wsX6_bySplit (wsV RX6 148 RX6 yX6_units wsX6_units) := goodIn_app (goodIn_of _ (by decide +kernel)) ggX6_bySplit_X6_units
theorem dX6_bySplit_0 : decode cX6_bySplit 0 = .ok (.aload_n 0, 1) := by decide +kernel
theorem dX6_bySplit_1 : decode cX6_bySplit 1 = .ok (.getfield 28, 3) := by decide +kernel
theorem dX6_bySplit_4 : decode cX6_bySplit 4 = .ok (.iload_n 1, 1) := by decide +kernel
theorem dX6_bySplit_5 : decode cX6_bySplit 5 = .ok (.iaload, 1) := by decide +kernel
theorem dX6_bySplit_6 : decode cX6_bySplit 6 = .ok (.istore_n 2, 1) := by decide +kernel
theorem dX6_bySplit_7 : decode cX6_bySplit 7 = .ok (.aload_n 0, 1) := by decide +kernel
theorem dX6_bySplit_8 : decode cX6_bySplit 8 = .ok (.iload_n 2, 1) := by decide +kernel
theorem dX6_bySplit_9 : decode cX6_bySplit 9 = .ok (.invokevirtual 76, 3) := by decide +kernel
theorem dX6_bySplit_12 : decode cX6_bySplit 12 = .ok (.ifCond .ne 5, 3) := by decide +kernel
theorem dX6_bySplit_15 : decode cX6_bySplit 15 = .ok (.iconst 0, 1) := by decide +kernel
theorem dX6_bySplit_16 : decode cX6_bySplit 16 = .ok (.ireturn, 1) := by decide +kernel
theorem dX6_bySplit_17 : decode cX6_bySplit 17 = .ok (.aload_n 0, 1) := by decide +kernel
theorem dX6_bySplit_18 : decode cX6_bySplit 18 = .ok (.iload_n 1, 1) := by decide +kernel
theorem dX6_bySplit_19 : decode cX6_bySplit 19 = .ok (.invokevirtual 151, 3) := by decide +kernel
theorem dX6_bySplit_22 : decode cX6_bySplit 22 = .ok (.aload_n 0, 1) := by decide +kernel
theorem dX6_bySplit_23 : decode cX6_bySplit 23 = .ok (.getfield 134, 3) := by decide +kernel
theorem dX6_bySplit_26 : decode cX6_bySplit 26 = .ok (.ifCond .eq 5, 3) := by decide +kernel
theorem dX6_bySplit_29 : decode cX6_bySplit 29 = .ok (.iconst 1, 1) := by decide +kernel
theorem dX6_bySplit_30 : decode cX6_bySplit 30 = .ok (.ireturn, 1) := by decide +kernel
theorem dX6_bySplit_31 : decode cX6_bySplit 31 = .ok (.iconst 0, 1) := by decide +kernel
theorem dX6_bySplit_32 : decode cX6_bySplit 32 = .ok (.istore_n 3, 1) := by decide +kernel
theorem dX6_bySplit_33 : decode cX6_bySplit 33 = .ok (.iload_n 3, 1) := by decide +kernel
theorem dX6_bySplit_34 : decode cX6_bySplit 34 = .ok (.bipush 16, 2) := by decide +kernel
theorem dX6_bySplit_36 : decode cX6_bySplit 36 = .ok (.if_icmp .ge 21, 3) := by decide +kernel
theorem dX6_bySplit_39 : decode cX6_bySplit 39 = .ok (.aload_n 0, 1) := by decide +kernel
theorem dX6_bySplit_40 : decode cX6_bySplit 40 = .ok (.getfield 40, 3) := by decide +kernel
theorem dX6_bySplit_43 : decode cX6_bySplit 43 = .ok (.iload_n 3, 1) := by decide +kernel
theorem dX6_bySplit_44 : decode cX6_bySplit 44 = .ok (.aload_n 0, 1) := by decide +kernel
theorem dX6_bySplit_45 : decode cX6_bySplit 45 = .ok (.getfield 37, 3) := by decide +kernel
theorem dX6_bySplit_48 : decode cX6_bySplit 48 = .ok (.iload_n 3, 1) := by decide +kernel
theorem dX6_bySplit_49 : decode cX6_bySplit 49 = .ok (.iaload, 1) := by decide +kernel
theorem dX6_bySplit_50 : decode cX6_bySplit 50 = .ok (.iastore, 1) := by decide +kernel
theorem dX6_bySplit_51 : decode cX6_bySplit 51 = .ok (.iinc 3 1, 3) := by decide +kernel
theorem dX6_bySplit_54 : decode cX6_bySplit 54 = .ok (.goto (-21), 3) := by decide +kernel
theorem dX6_bySplit_57 : decode cX6_bySplit 57 = .ok (.iconst 0, 1) := by decide +kernel
theorem dX6_bySplit_58 : decode cX6_bySplit 58 = .ok (.istore_n 3, 1) := by decide +kernel
theorem dX6_bySplit_59 : decode cX6_bySplit 59 = .ok (.iload_n 3, 1) := by decide +kernel
theorem dX6_bySplit_60 : decode cX6_bySplit 60 = .ok (.aload_n 0, 1) := by decide +kernel
theorem dX6_bySplit_61 : decode cX6_bySplit 61 = .ok (.getfield 60, 3) := by decide +kernel
theorem dX6_bySplit_64 : decode cX6_bySplit 64 = .ok (.if_icmp .ge 83, 3) := by decide +kernel
theorem dX6_bySplit_67 : decode cX6_bySplit 67 = .ok (.aload_n 0, 1) := by decide +kernel
theorem dX6_bySplit_68 : decode cX6_bySplit 68 = .ok (.getfield 40, 3) := by decide +kernel
theorem dX6_bySplit_71 : decode cX6_bySplit 71 = .ok (.iload_n 2, 1) := by decide +kernel
theorem dX6_bySplit_72 : decode cX6_bySplit 72 = .ok (.iaload, 1) := by decide +kernel
theorem dX6_bySplit_73 : decode cX6_bySplit 73 = .ok (.iload_n 3, 1) := by decide +kernel
theorem dX6_bySplit_74 : decode cX6_bySplit 74 = .ok (.ishr, 1) := by decide +kernel
theorem dX6_bySplit_75 : decode cX6_bySplit 75 = .ok (.iconst 1, 1) := by decide +kernel
theorem dX6_bySplit_76 : decode cX6_bySplit 76 = .ok (.iand, 1) := by decide +kernel
theorem dX6_bySplit_77 : decode cX6_bySplit 77 = .ok (.ifCond .ne 6, 3) := by decide +kernel
theorem dX6_bySplit_80 : decode cX6_bySplit 80 = .ok (.goto 61, 3) := by decide +kernel
theorem dX6_bySplit_83 : decode cX6_bySplit 83 = .ok (.iconst 0, 1) := by decide +kernel
theorem dX6_bySplit_84 : decode cX6_bySplit 84 = .ok (.istore 4, 2) := by decide +kernel
theorem dX6_bySplit_86 : decode cX6_bySplit 86 = .ok (.iload 4, 2) := by decide +kernel
theorem dX6_bySplit_88 : decode cX6_bySplit 88 = .ok (.bipush 16, 2) := by decide +kernel
theorem dX6_bySplit_90 : decode cX6_bySplit 90 = .ok (.if_icmp .ge 23, 3) := by decide +kernel
theorem dX6_bySplit_93 : decode cX6_bySplit 93 = .ok (.aload_n 0, 1) := by decide +kernel
theorem dX6_bySplit_94 : decode cX6_bySplit 94 = .ok (.getfield 37, 3) := by decide +kernel
theorem dX6_bySplit_97 : decode cX6_bySplit 97 = .ok (.iload 4, 2) := by decide +kernel
theorem dX6_bySplit_99 : decode cX6_bySplit 99 = .ok (.aload_n 0, 1) := by decide +kernel
theorem dX6_bySplit_100 : decode cX6_bySplit 100 = .ok (.getfield 40, 3) := by decide +kernel
theorem dX6_bySplit_103 : decode cX6_bySplit 103 = .ok (.iload 4, 2) := by decide +kernel
theorem dX6_bySplit_105 : decode cX6_bySplit 105 = .ok (.iaload, 1) := by decide +kernel
theorem dX6_bySplit_106 : decode cX6_bySplit 106 = .ok (.iastore, 1) := by decide +kernel
theorem dX6_bySplit_107 : decode cX6_bySplit 107 = .ok (.iinc 4 1, 3) := by decide +kernel
theorem dX6_bySplit_110 : decode cX6_bySplit 110 = .ok (.goto (-24), 3) := by decide +kernel
theorem dX6_bySplit_113 : decode cX6_bySplit 113 = .ok (.aload_n 0, 1) := by decide +kernel
theorem dX6_bySplit_114 : decode cX6_bySplit 114 = .ok (.iconst 0, 1) := by decide +kernel
theorem dX6_bySplit_115 : decode cX6_bySplit 115 = .ok (.putfield 134, 3) := by decide +kernel
theorem dX6_bySplit_118 : decode cX6_bySplit 118 = .ok (.aload_n 0, 1) := by decide +kernel
theorem dX6_bySplit_119 : decode cX6_bySplit 119 = .ok (.getfield 37, 3) := by decide +kernel
theorem dX6_bySplit_122 : decode cX6_bySplit 122 = .ok (.iload_n 2, 1) := by decide +kernel
theorem dX6_bySplit_123 : decode cX6_bySplit 123 = .ok (.iconst 1, 1) := by decide +kernel
theorem dX6_bySplit_124 : decode cX6_bySplit 124 = .ok (.iload_n 3, 1) := by decide +kernel
theorem dX6_bySplit_125 : decode cX6_bySplit 125 = .ok (.ishl, 1) := by decide +kernel
theorem dX6_bySplit_126 : decode cX6_bySplit 126 = .ok (.iastore, 1) := by decide +kernel
theorem dX6_bySplit_127 : decode cX6_bySplit 127 = .ok (.aload_n 0, 1) := by decide +kernel
theorem dX6_bySplit_128 : decode cX6_bySplit 128 = .ok (.iload_n 1, 1) := by decide +kernel
theorem dX6_bySplit_129 : decode cX6_bySplit 129 = .ok (.invokevirtual 148, 3) := by decide +kernel
theorem dX6_bySplit_132 : decode cX6_bySplit 132 = .ok (.aload_n 0, 1) := by decide +kernel
theorem dX6_bySplit_133 : decode cX6_bySplit 133 = .ok (.getfield 134, 3) := by decide +kernel
theorem dX6_bySplit_136 : decode cX6_bySplit 136 = .ok (.ifCond .ne 5, 3) := by decide +kernel
theorem dX6_bySplit_139 : decode cX6_bySplit 139 = .ok (.iconst 0, 1) := by decide +kernel
theorem dX6_bySplit_140 : decode cX6_bySplit 140 = .ok (.ireturn, 1) := by decide +kernel
theorem dX6_bySplit_141 : decode cX6_bySplit 141 = .ok (.iinc 3 1, 3) := by decide +kernel
theorem dX6_bySplit_144 : decode cX6_bySplit 144 = .ok (.goto (-85), 3) := by decide +kernel
theorem dX6_bySplit_147 : decode cX6_bySplit 147 = .ok (.iconst 1, 1) := by decide +kernel
theorem dX6_bySplit_148 : decode cX6_bySplit 148 = .ok (.ireturn, 1) := by decide +kernel
set_option maxRecDepth 20000 in
theorem ggX6_isBarred_X6_firstFailing : GoodIn wsX6_isBarred wsX6_firstFailing := goodIn_r _ [7, 8, 9, 10, 11, 6, 12, 13, 14, 2, 15, 16, 17, 18, 19, 20, 21, 22, 23, 24, 25, 26, 27, 28, 29, 30, 31, 32, 33, 34, 50, 51, 52, 53, 54, 55, 56, 57, 58, 59, 60, 61, 62, 63, 64, 65, 66, 67, 68, 69, 70, 71, 72] (by decide +kernel) (by decide +kernel)
set_option maxRecDepth 20000 in
theorem gX6_isBarred_X6_firstFailing : GoodIn wsX6_isBarred (wsV RX6 104 RX6 yX6_firstFailing wsX6_firstFailing) := goodIn_app (goodIn_of _ (by decide +kernel)) ggX6_isBarred_X6_firstFailing
set_option maxRecDepth 20000 in
theorem ggX6_isBarred_X6_cells : GoodIn wsX6_isBarred wsX6_cells := goodIn_r _ [38, 34, 39, 50, 51, 52, 53, 54, 55, 56, 57, 58, 59, 60, 61, 62, 63, 64, 65, 66, 67, 68, 69, 70, 71, 72] (by decide +kernel) (by decide +kernel)
set_option maxRecDepth 20000 in
theorem gX6_isBarred_X6_cells : GoodIn wsX6_isBarred (wsV RX6 66 RX6 yX6_cells wsX6_cells) := goodIn_app (goodIn_of _ (by decide +kernel)) ggX6_isBarred_X6_cells
set_option maxRecDepth 20000 in
theorem ggX6_isBarred_X6_literalOf : GoodIn wsX6_isBarred wsX6_literalOf := goodIn_r _ [43, 44, 50, 51, 52, 53, 54, 55, 56, 57, 58, 59, 60, 61, 62, 63, 64, 65, 66, 67, 68, 69, 70, 71, 72] (by decide +kernel) (by decide +kernel)
set_option maxRecDepth 20000 in
theorem gX6_isBarred_X6_literalOf : GoodIn wsX6_isBarred (wsV RX6 114 RX6 yX6_literalOf wsX6_literalOf) := goodIn_app (goodIn_of _ (by decide +kernel)) ggX6_isBarred_X6_literalOf
set_option maxRecDepth 20000 in
theorem ggX6_isBarred_X6_has : GoodIn wsX6_isBarred wsX6_has := goodIn_r _ [48, 1, 49, 50, 51, 52, 53, 54, 55, 56, 57, 58, 59, 60, 61, 62, 63, 64, 65, 66, 67, 68, 69, 70, 71, 72] (by decide +kernel) (by decide +kernel)
set_option maxRecDepth 20000 in
theorem gX6_isBarred_X6_has : GoodIn wsX6_isBarred (wsV RX6 118 RX6 yX6_has wsX6_has) := goodIn_app (goodIn_of _ (by decide +kernel)) ggX6_isBarred_X6_has
theorem dX6_isBarred_0 : decode cX6_isBarred 0 = .ok (.aload_n 0, 1) := by decide +kernel
theorem dX6_isBarred_1 : decode cX6_isBarred 1 = .ok (.invokevirtual 104, 3) := by decide +kernel
theorem dX6_isBarred_4 : decode cX6_isBarred 4 = .ok (.ifCond .ge 16, 3) := by decide +kernel
theorem dX6_isBarred_7 : decode cX6_isBarred 7 = .ok (.aload_n 0, 1) := by decide +kernel
theorem dX6_isBarred_8 : decode cX6_isBarred 8 = .ok (.getfield 31, 3) := by decide +kernel
theorem dX6_isBarred_11 : decode cX6_isBarred 11 = .ok (.iload_n 1, 1) := by decide +kernel
theorem dX6_isBarred_12 : decode cX6_isBarred 12 = .ok (.iaload, 1) := by decide +kernel
theorem dX6_isBarred_13 : decode cX6_isBarred 13 = .ok (.aload_n 0, 1) := by decide +kernel
theorem dX6_isBarred_14 : decode cX6_isBarred 14 = .ok (.invokevirtual 66, 3) := by decide +kernel
theorem dX6_isBarred_17 : decode cX6_isBarred 17 = .ok (.if_icmp .eq 5, 3) := by decide +kernel
theorem dX6_isBarred_20 : decode cX6_isBarred 20 = .ok (.iconst 0, 1) := by decide +kernel
theorem dX6_isBarred_21 : decode cX6_isBarred 21 = .ok (.ireturn, 1) := by decide +kernel
theorem dX6_isBarred_22 : decode cX6_isBarred 22 = .ok (.iconst 0, 1) := by decide +kernel
theorem dX6_isBarred_23 : decode cX6_isBarred 23 = .ok (.istore_n 2, 1) := by decide +kernel
theorem dX6_isBarred_24 : decode cX6_isBarred 24 = .ok (.iload_n 2, 1) := by decide +kernel
theorem dX6_isBarred_25 : decode cX6_isBarred 25 = .ok (.aload_n 0, 1) := by decide +kernel
theorem dX6_isBarred_26 : decode cX6_isBarred 26 = .ok (.invokevirtual 66, 3) := by decide +kernel
theorem dX6_isBarred_29 : decode cX6_isBarred 29 = .ok (.if_icmp .ge 40, 3) := by decide +kernel
theorem dX6_isBarred_32 : decode cX6_isBarred 32 = .ok (.aload_n 0, 1) := by decide +kernel
theorem dX6_isBarred_33 : decode cX6_isBarred 33 = .ok (.getfield 22, 3) := by decide +kernel
theorem dX6_isBarred_36 : decode cX6_isBarred 36 = .ok (.iload_n 2, 1) := by decide +kernel
theorem dX6_isBarred_37 : decode cX6_isBarred 37 = .ok (.iaload, 1) := by decide +kernel
theorem dX6_isBarred_38 : decode cX6_isBarred 38 = .ok (.ifCond .lt 23, 3) := by decide +kernel
theorem dX6_isBarred_41 : decode cX6_isBarred 41 = .ok (.aload_n 0, 1) := by decide +kernel
theorem dX6_isBarred_42 : decode cX6_isBarred 42 = .ok (.iload_n 1, 1) := by decide +kernel
theorem dX6_isBarred_43 : decode cX6_isBarred 43 = .ok (.aload_n 0, 1) := by decide +kernel
theorem dX6_isBarred_44 : decode cX6_isBarred 44 = .ok (.iload_n 2, 1) := by decide +kernel
theorem dX6_isBarred_45 : decode cX6_isBarred 45 = .ok (.aload_n 0, 1) := by decide +kernel
theorem dX6_isBarred_46 : decode cX6_isBarred 46 = .ok (.getfield 22, 3) := by decide +kernel
theorem dX6_isBarred_49 : decode cX6_isBarred 49 = .ok (.iload_n 2, 1) := by decide +kernel
theorem dX6_isBarred_50 : decode cX6_isBarred 50 = .ok (.iaload, 1) := by decide +kernel
theorem dX6_isBarred_51 : decode cX6_isBarred 51 = .ok (.iconst 0, 1) := by decide +kernel
theorem dX6_isBarred_52 : decode cX6_isBarred 52 = .ok (.invokevirtual 114, 3) := by decide +kernel
theorem dX6_isBarred_55 : decode cX6_isBarred 55 = .ok (.invokevirtual 118, 3) := by decide +kernel
theorem dX6_isBarred_58 : decode cX6_isBarred 58 = .ok (.ifCond .ne 5, 3) := by decide +kernel
theorem dX6_isBarred_61 : decode cX6_isBarred 61 = .ok (.iconst 0, 1) := by decide +kernel
theorem dX6_isBarred_62 : decode cX6_isBarred 62 = .ok (.ireturn, 1) := by decide +kernel
theorem dX6_isBarred_63 : decode cX6_isBarred 63 = .ok (.iinc 2 1, 3) := by decide +kernel
theorem dX6_isBarred_66 : decode cX6_isBarred 66 = .ok (.goto (-42), 3) := by decide +kernel
theorem dX6_isBarred_69 : decode cX6_isBarred 69 = .ok (.iconst 1, 1) := by decide +kernel
theorem dX6_isBarred_70 : decode cX6_isBarred 70 = .ok (.ireturn, 1) := by decide +kernel
set_option maxRecDepth 20000 in
theorem ggX6_isRight_X6_byRule : GoodIn wsX6_isRight wsX6_byRule := goodIn_r _ [7, 8, 9, 10, 11, 12, 13, 14, 15, 16, 17, 6, 18, 19, 20, 21, 22, 23, 24, 25, 26, 27, 28, 29, 30, 31, 32, 33, 34, 35, 36, 37, 38, 39, 40, 41, 42, 43, 44, 45, 46, 47, 48, 49, 50, 107, 108, 109, 110, 111, 112, 113, 114, 115, 116, 117, 118, 119, 120, 121, 122, 123, 124, 125, 126, 127, 128, 129] (by decide +kernel) (by decide +kernel)
set_option maxRecDepth 20000 in
theorem gX6_isRight_X6_byRule : GoodIn wsX6_isRight (wsV RX6 154 RX6 yX6_byRule wsX6_byRule) := goodIn_app (goodIn_of _ (by decide +kernel)) ggX6_isRight_X6_byRule
set_option maxRecDepth 20000 in
theorem ggX6_isRight_X6_turned : GoodIn wsX6_isRight wsX6_turned := goodIn_r _ [54, 13, 14, 55, 56, 57, 6, 58, 2, 59, 11, 60, 61, 62, 63, 39, 40, 41, 42, 47, 48, 49, 50, 64, 65, 66, 67, 68, 69, 70, 71, 107, 108, 109, 110, 111, 112, 113, 114, 115, 116, 117, 118, 119, 120, 121, 122, 123, 124, 125, 126, 127, 128, 129] (by decide +kernel) (by decide +kernel)
set_option maxRecDepth 20000 in
theorem gX6_isRight_X6_turned : GoodIn wsX6_isRight (wsV RX6 151 RX6 yX6_turned wsX6_turned) := goodIn_app (goodIn_of _ (by decide +kernel)) ggX6_isRight_X6_turned
set_option maxRecDepth 20000 in
theorem ggX6_isRight_X6_bySplit : GoodIn wsX6_isRight wsX6_bySplit := goodIn_r _ [75, 8, 2, 76, 59, 11, 77, 78, 79, 6, 80, 81, 82, 83, 84, 34, 85, 51, 52, 53, 54, 13, 14, 55, 56, 57, 58, 60, 61, 62, 63, 39, 40, 41, 42, 47, 48, 49, 50, 64, 65, 66, 67, 68, 69, 70, 71, 107, 108, 109, 110, 111, 112, 113, 114, 115, 116, 117, 118, 119, 120, 121, 122, 123, 124, 125, 126, 127, 128, 129] (by decide +kernel) (by decide +kernel)
set_option maxRecDepth 20000 in
theorem gX6_isRight_X6_bySplit : GoodIn wsX6_isRight (wsV RX6 157 RX6 yX6_bySplit wsX6_bySplit) := goodIn_app (goodIn_of _ (by decide +kernel)) ggX6_isRight_X6_bySplit
set_option maxRecDepth 20000 in
theorem ggX6_isRight_X6_isBarred : GoodIn wsX6_isRight wsX6_isBarred := goodIn_r _ [89, 13, 90, 91, 92, 93, 6, 94, 9, 95, 96, 97, 98, 10, 12, 25, 26, 27, 28, 29, 15, 16, 17, 18, 19, 20, 21, 22, 23, 24, 30, 31, 32, 33, 34, 81, 82, 83, 84, 85, 99, 100, 101, 102, 11, 103, 104, 105, 106, 14, 107, 108, 109, 110, 111, 112, 113, 114, 115, 116, 117, 118, 119, 120, 121, 122, 123, 124, 125, 126, 127, 128, 129] (by decide +kernel) (by decide +kernel)
set_option maxRecDepth 20000 in
theorem gX6_isRight_X6_isBarred : GoodIn wsX6_isRight (wsV RX6 160 RX6 yX6_isBarred wsX6_isBarred) := goodIn_app (goodIn_of _ (by decide +kernel)) ggX6_isRight_X6_isBarred
theorem dX6_isRight_0 : decode cX6_isRight 0 = .ok (.aload_n 0, 1) := by decide +kernel
theorem dX6_isRight_1 : decode cX6_isRight 1 = .ok (.getfield 25, 3) := by decide +kernel
theorem dX6_isRight_4 : decode cX6_isRight 4 = .ok (.iload_n 1, 1) := by decide +kernel
theorem dX6_isRight_5 : decode cX6_isRight 5 = .ok (.iaload, 1) := by decide +kernel
theorem dX6_isRight_6 : decode cX6_isRight 6 = .ok (.tableswitch 48 0 2 #[26, 32, 42], 26) := by decide +kernel
theorem dX6_isRight_32 : decode cX6_isRight 32 = .ok (.aload_n 0, 1) := by decide +kernel
theorem dX6_isRight_33 : decode cX6_isRight 33 = .ok (.iload_n 1, 1) := by decide +kernel
theorem dX6_isRight_34 : decode cX6_isRight 34 = .ok (.invokevirtual 154, 3) := by decide +kernel
theorem dX6_isRight_37 : decode cX6_isRight 37 = .ok (.ireturn, 1) := by decide +kernel
theorem dX6_isRight_38 : decode cX6_isRight 38 = .ok (.aload_n 0, 1) := by decide +kernel
theorem dX6_isRight_39 : decode cX6_isRight 39 = .ok (.iload_n 1, 1) := by decide +kernel
theorem dX6_isRight_40 : decode cX6_isRight 40 = .ok (.invokevirtual 151, 3) := by decide +kernel
theorem dX6_isRight_43 : decode cX6_isRight 43 = .ok (.aload_n 0, 1) := by decide +kernel
theorem dX6_isRight_44 : decode cX6_isRight 44 = .ok (.getfield 134, 3) := by decide +kernel
theorem dX6_isRight_47 : decode cX6_isRight 47 = .ok (.ireturn, 1) := by decide +kernel
theorem dX6_isRight_48 : decode cX6_isRight 48 = .ok (.aload_n 0, 1) := by decide +kernel
theorem dX6_isRight_49 : decode cX6_isRight 49 = .ok (.iload_n 1, 1) := by decide +kernel
theorem dX6_isRight_50 : decode cX6_isRight 50 = .ok (.invokevirtual 157, 3) := by decide +kernel
theorem dX6_isRight_53 : decode cX6_isRight 53 = .ok (.ireturn, 1) := by decide +kernel
theorem dX6_isRight_54 : decode cX6_isRight 54 = .ok (.aload_n 0, 1) := by decide +kernel
theorem dX6_isRight_55 : decode cX6_isRight 55 = .ok (.iload_n 1, 1) := by decide +kernel
theorem dX6_isRight_56 : decode cX6_isRight 56 = .ok (.invokevirtual 160, 3) := by decide +kernel
theorem dX6_isRight_59 : decode cX6_isRight 59 = .ok (.ireturn, 1) := by decide +kernel
set_option maxRecDepth 20000 in
theorem ggX6_right_X6_isRight : GoodIn wsX6_right wsX6_isRight := goodIn_r _ [6, 7, 8, 9, 10, 11, 5, 12, 13, 14, 15, 16, 17, 18, 19, 20, 21, 22, 23, 24, 25, 26, 27, 28, 29, 30, 31, 32, 33, 34, 35, 36, 37, 38, 39, 40, 41, 42, 43, 44, 45, 46, 47, 48, 49, 50, 51, 52, 53, 54, 55, 56, 57, 58, 59, 60, 61, 62, 63, 64, 65, 66, 67, 68, 69, 70, 71, 72, 73, 74, 75, 76, 77, 78, 79, 80, 81, 82, 83, 84, 85, 86, 87, 88, 89, 90, 91, 92, 93, 94, 95, 96, 97, 98, 99, 100, 101, 102, 103, 104, 105, 106, 107, 108, 109, 110, 111, 112, 113, 114, 115, 116, 117, 118, 119, 120, 121, 122, 123, 124, 125, 126, 127, 128, 129, 130, 131, 132, 133, 134] (by decide +kernel) (by decide +kernel)
set_option maxRecDepth 20000 in
theorem gX6_right_X6_isRight : GoodIn wsX6_right (wsV RX6 163 RX6 yX6_isRight wsX6_isRight) := goodIn_app (goodIn_of _ (by decide +kernel)) ggX6_right_X6_isRight
theorem dX6_right_0 : decode cX6_right 0 = .ok (.iconst 0, 1) := by decide +kernel
theorem dX6_right_1 : decode cX6_right 1 = .ok (.istore_n 1, 1) := by decide +kernel
theorem dX6_right_2 : decode cX6_right 2 = .ok (.iload_n 1, 1) := by decide +kernel
theorem dX6_right_3 : decode cX6_right 3 = .ok (.aload_n 0, 1) := by decide +kernel
theorem dX6_right_4 : decode cX6_right 4 = .ok (.getfield 107, 3) := by decide +kernel
theorem dX6_right_7 : decode cX6_right 7 = .ok (.if_icmp .ge 17, 3) := by decide +kernel
theorem dX6_right_10 : decode cX6_right 10 = .ok (.aload_n 0, 1) := by decide +kernel
theorem dX6_right_11 : decode cX6_right 11 = .ok (.iload_n 1, 1) := by decide +kernel
theorem dX6_right_12 : decode cX6_right 12 = .ok (.invokevirtual 163, 3) := by decide +kernel
theorem dX6_right_15 : decode cX6_right 15 = .ok (.ifCond .eq 9, 3) := by decide +kernel
theorem dX6_right_18 : decode cX6_right 18 = .ok (.iinc 1 1, 3) := by decide +kernel
theorem dX6_right_21 : decode cX6_right 21 = .ok (.goto (-19), 3) := by decide +kernel
theorem dX6_right_24 : decode cX6_right 24 = .ok (.iload_n 1, 1) := by decide +kernel
theorem dX6_right_25 : decode cX6_right 25 = .ok (.ireturn, 1) := by decide +kernel
set_option maxRecDepth 20000 in
theorem ggX6_check_X6_right : GoodIn wsX6_check wsX6_right := goodIn_r _ [6, 7, 8, 9, 10, 5, 11, 12, 13, 14, 15, 16, 17, 18, 19, 20, 21, 22, 23, 24, 25, 26, 27, 28, 29, 30, 31, 32, 33, 34, 35, 36, 37, 38, 39, 40, 41, 42, 43, 44, 45, 46, 47, 48, 49, 50, 51, 52, 53, 54, 55, 56, 57, 58, 59, 60, 61, 62, 63, 64, 65, 66, 67, 68, 69, 70, 71, 72, 73, 74, 75, 76, 77, 78, 79, 80, 81, 82, 83, 84, 85, 86, 87, 88, 89, 90, 91, 92, 93, 94, 95, 96, 97, 98, 99, 100, 101, 102, 103, 104, 105, 106, 107, 108, 109, 110, 111, 112, 113, 114, 115, 116, 117, 118, 119, 120, 121, 122, 123, 124, 125, 126, 127, 128, 129, 130, 131, 132, 133, 134, 135, 136, 137, 138, 139] (by decide +kernel) (by decide +kernel)
set_option maxRecDepth 20000 in
theorem gX6_check_X6_right : GoodIn wsX6_check (wsV RX6 166 RX6 yX6_right wsX6_right) := goodIn_app (goodIn_of _ (by decide +kernel)) ggX6_check_X6_right
theorem dX6_check_0 : decode cX6_check 0 = .ok (.aload_n 0, 1) := by decide +kernel
theorem dX6_check_1 : decode cX6_check 1 = .ok (.iconst 0, 1) := by decide +kernel
theorem dX6_check_2 : decode cX6_check 2 = .ok (.putfield 63, 3) := by decide +kernel
theorem dX6_check_5 : decode cX6_check 5 = .ok (.aload_n 0, 1) := by decide +kernel
theorem dX6_check_6 : decode cX6_check 6 = .ok (.invokevirtual 166, 3) := by decide +kernel
theorem dX6_check_9 : decode cX6_check 9 = .ok (.ireturn, 1) := by decide +kernel
set_option maxRecDepth 20000 in
theorem ggX6_proves_X6_right : GoodIn wsX6_proves wsX6_right := goodIn_r _ [9, 2, 10, 11, 12, 8, 13, 4, 14, 15, 16, 17, 18, 19, 20, 21, 22, 23, 3, 24, 25, 26, 27, 28, 29, 30, 31, 32, 33, 34, 35, 36, 37, 38, 39, 40, 41, 42, 43, 44, 45, 46, 47, 48, 49, 50, 51, 52, 53, 54, 55, 56, 57, 58, 59, 60, 61, 62, 63, 64, 65, 66, 67, 68, 69, 70, 71, 72, 73, 74, 75, 76, 77, 78, 79, 80, 81, 82, 83, 84, 85, 86, 87, 88, 89, 90, 91, 92, 93, 94, 95, 96, 97, 98, 99, 100, 101, 102, 103, 104, 105, 106, 107, 108, 109, 110, 111, 112, 113, 114, 115, 116, 117, 118, 119, 120, 121, 122, 123, 124, 125, 126, 127, 128, 129, 130, 131, 132, 133, 134, 135, 136, 137, 138, 139] (by decide +kernel) (by decide +kernel)
set_option maxRecDepth 20000 in
theorem gX6_proves_X6_right : GoodIn wsX6_proves (wsV RX6 166 RX6 yX6_right wsX6_right) := goodIn_app (goodIn_of _ (by decide +kernel)) ggX6_proves_X6_right
theorem dX6_proves_0 : decode cX6_proves 0 = .ok (.aload_n 0, 1) := by decide +kernel
theorem dX6_proves_1 : decode cX6_proves 1 = .ok (.iconst 0, 1) := by decide +kernel
theorem dX6_proves_2 : decode cX6_proves 2 = .ok (.putfield 63, 3) := by decide +kernel
theorem dX6_proves_5 : decode cX6_proves 5 = .ok (.aload_n 0, 1) := by decide +kernel
theorem dX6_proves_6 : decode cX6_proves 6 = .ok (.getfield 107, 3) := by decide +kernel
theorem dX6_proves_9 : decode cX6_proves 9 = .ok (.ifCond .eq 28, 3) := by decide +kernel
theorem dX6_proves_12 : decode cX6_proves 12 = .ok (.aload_n 0, 1) := by decide +kernel
theorem dX6_proves_13 : decode cX6_proves 13 = .ok (.getfield 31, 3) := by decide +kernel
theorem dX6_proves_16 : decode cX6_proves 16 = .ok (.aload_n 0, 1) := by decide +kernel
theorem dX6_proves_17 : decode cX6_proves 17 = .ok (.getfield 107, 3) := by decide +kernel
theorem dX6_proves_20 : decode cX6_proves 20 = .ok (.iconst 1, 1) := by decide +kernel
theorem dX6_proves_21 : decode cX6_proves 21 = .ok (.isub, 1) := by decide +kernel
theorem dX6_proves_22 : decode cX6_proves 22 = .ok (.iaload, 1) := by decide +kernel
theorem dX6_proves_23 : decode cX6_proves 23 = .ok (.ifCond .gt 14, 3) := by decide +kernel
theorem dX6_proves_26 : decode cX6_proves 26 = .ok (.aload_n 0, 1) := by decide +kernel
theorem dX6_proves_27 : decode cX6_proves 27 = .ok (.invokevirtual 166, 3) := by decide +kernel
theorem dX6_proves_30 : decode cX6_proves 30 = .ok (.aload_n 0, 1) := by decide +kernel
theorem dX6_proves_31 : decode cX6_proves 31 = .ok (.getfield 107, 3) := by decide +kernel
theorem dX6_proves_34 : decode cX6_proves 34 = .ok (.if_icmp .ge 5, 3) := by decide +kernel
theorem dX6_proves_37 : decode cX6_proves 37 = .ok (.iconst 0, 1) := by decide +kernel
theorem dX6_proves_38 : decode cX6_proves 38 = .ok (.ireturn, 1) := by decide +kernel
theorem dX6_proves_39 : decode cX6_proves 39 = .ok (.iconst 0, 1) := by decide +kernel
theorem dX6_proves_40 : decode cX6_proves 40 = .ok (.istore_n 1, 1) := by decide +kernel
theorem dX6_proves_41 : decode cX6_proves 41 = .ok (.iload_n 1, 1) := by decide +kernel
theorem dX6_proves_42 : decode cX6_proves 42 = .ok (.aload_n 0, 1) := by decide +kernel
theorem dX6_proves_43 : decode cX6_proves 43 = .ok (.getfield 107, 3) := by decide +kernel
theorem dX6_proves_46 : decode cX6_proves 46 = .ok (.if_icmp .ge 21, 3) := by decide +kernel
theorem dX6_proves_49 : decode cX6_proves 49 = .ok (.aload_n 0, 1) := by decide +kernel
theorem dX6_proves_50 : decode cX6_proves 50 = .ok (.getfield 25, 3) := by decide +kernel
theorem dX6_proves_53 : decode cX6_proves 53 = .ok (.iload_n 1, 1) := by decide +kernel
theorem dX6_proves_54 : decode cX6_proves 54 = .ok (.iaload, 1) := by decide +kernel
theorem dX6_proves_55 : decode cX6_proves 55 = .ok (.iconst 3, 1) := by decide +kernel
theorem dX6_proves_56 : decode cX6_proves 56 = .ok (.if_icmp .ne 5, 3) := by decide +kernel
theorem dX6_proves_59 : decode cX6_proves 59 = .ok (.iconst 2, 1) := by decide +kernel
theorem dX6_proves_60 : decode cX6_proves 60 = .ok (.ireturn, 1) := by decide +kernel
theorem dX6_proves_61 : decode cX6_proves 61 = .ok (.iinc 1 1, 3) := by decide +kernel
theorem dX6_proves_64 : decode cX6_proves 64 = .ok (.goto (-23), 3) := by decide +kernel
theorem dX6_proves_67 : decode cX6_proves 67 = .ok (.iconst 1, 1) := by decide +kernel
theorem dX6_proves_68 : decode cX6_proves 68 = .ok (.ireturn, 1) := by decide +kernel
set_option maxRecDepth 20000 in
theorem ggX6_tell_X6_throwsIf : GoodIn wsX6_tell wsX6_throwsIf := goodIn_r _ [10, 11, 12, 13, 14, 15, 16, 17, 18, 19, 20, 21, 22, 23, 24, 25, 26, 27, 28, 29, 30, 31, 32, 33, 34] (by decide +kernel) (by decide +kernel)
set_option maxRecDepth 20000 in
theorem gX6_tell_X6_throwsIf : GoodIn wsX6_tell (wsV RX6 80 RX6 yX6_throwsIf wsX6_throwsIf) := goodIn_app (goodIn_of _ (by decide +kernel)) ggX6_tell_X6_throwsIf
theorem dX6_tell_0 : decode cX6_tell 0 = .ok (.aload_n 0, 1) := by decide +kernel
theorem dX6_tell_1 : decode cX6_tell 1 = .ok (.iconst 1, 1) := by decide +kernel
theorem dX6_tell_2 : decode cX6_tell 2 = .ok (.iload_n 1, 1) := by decide +kernel
theorem dX6_tell_3 : decode cX6_tell 3 = .ok (.ifCond .lt 11, 3) := by decide +kernel
theorem dX6_tell_6 : decode cX6_tell 6 = .ok (.iload_n 1, 1) := by decide +kernel
theorem dX6_tell_7 : decode cX6_tell 7 = .ok (.aload_n 0, 1) := by decide +kernel
theorem dX6_tell_8 : decode cX6_tell 8 = .ok (.getfield 107, 3) := by decide +kernel
theorem dX6_tell_11 : decode cX6_tell 11 = .ok (.if_icmp .lt 7, 3) := by decide +kernel
theorem dX6_tell_14 : decode cX6_tell 14 = .ok (.iconst 1, 1) := by decide +kernel
theorem dX6_tell_15 : decode cX6_tell 15 = .ok (.goto 4, 3) := by decide +kernel
theorem dX6_tell_18 : decode cX6_tell 18 = .ok (.iconst 0, 1) := by decide +kernel
theorem dX6_tell_19 : decode cX6_tell 19 = .ok (.invokevirtual 80, 3) := by decide +kernel
theorem dX6_tell_22 : decode cX6_tell 22 = .ok (.ifCond .eq 5, 3) := by decide +kernel
theorem dX6_tell_25 : decode cX6_tell 25 = .ok (.iconst 0, 1) := by decide +kernel
theorem dX6_tell_26 : decode cX6_tell 26 = .ok (.ireturn, 1) := by decide +kernel
theorem dX6_tell_27 : decode cX6_tell 27 = .ok (.iload_n 2, 1) := by decide +kernel
theorem dX6_tell_28 : decode cX6_tell 28 = .ok (.iconst 3, 1) := by decide +kernel
theorem dX6_tell_29 : decode cX6_tell 29 = .ok (.if_icmp .ge 46, 3) := by decide +kernel
theorem dX6_tell_32 : decode cX6_tell 32 = .ok (.iload_n 2, 1) := by decide +kernel
theorem dX6_tell_33 : decode cX6_tell 33 = .ok (.ifCond .ne 12, 3) := by decide +kernel
theorem dX6_tell_36 : decode cX6_tell 36 = .ok (.aload_n 0, 1) := by decide +kernel
theorem dX6_tell_37 : decode cX6_tell 37 = .ok (.getfield 25, 3) := by decide +kernel
theorem dX6_tell_40 : decode cX6_tell 40 = .ok (.iload_n 1, 1) := by decide +kernel
theorem dX6_tell_41 : decode cX6_tell 41 = .ok (.iaload, 1) := by decide +kernel
theorem dX6_tell_42 : decode cX6_tell 42 = .ok (.goto 32, 3) := by decide +kernel
theorem dX6_tell_45 : decode cX6_tell 45 = .ok (.iload_n 2, 1) := by decide +kernel
theorem dX6_tell_46 : decode cX6_tell 46 = .ok (.iconst 1, 1) := by decide +kernel
theorem dX6_tell_47 : decode cX6_tell 47 = .ok (.if_icmp .ne 12, 3) := by decide +kernel
theorem dX6_tell_50 : decode cX6_tell 50 = .ok (.aload_n 0, 1) := by decide +kernel
theorem dX6_tell_51 : decode cX6_tell 51 = .ok (.getfield 28, 3) := by decide +kernel
theorem dX6_tell_54 : decode cX6_tell 54 = .ok (.iload_n 1, 1) := by decide +kernel
theorem dX6_tell_55 : decode cX6_tell 55 = .ok (.iaload, 1) := by decide +kernel
theorem dX6_tell_56 : decode cX6_tell 56 = .ok (.goto 18, 3) := by decide +kernel
theorem dX6_tell_59 : decode cX6_tell 59 = .ok (.iload_n 2, 1) := by decide +kernel
theorem dX6_tell_60 : decode cX6_tell 60 = .ok (.iconst 2, 1) := by decide +kernel
theorem dX6_tell_61 : decode cX6_tell 61 = .ok (.if_icmp .ne 12, 3) := by decide +kernel
theorem dX6_tell_64 : decode cX6_tell 64 = .ok (.aload_n 0, 1) := by decide +kernel
theorem dX6_tell_65 : decode cX6_tell 65 = .ok (.getfield 31, 3) := by decide +kernel
theorem dX6_tell_68 : decode cX6_tell 68 = .ok (.iload_n 1, 1) := by decide +kernel
theorem dX6_tell_69 : decode cX6_tell 69 = .ok (.iaload, 1) := by decide +kernel
theorem dX6_tell_70 : decode cX6_tell 70 = .ok (.goto 4, 3) := by decide +kernel
theorem dX6_tell_73 : decode cX6_tell 73 = .ok (.iconst (-1), 1) := by decide +kernel
theorem dX6_tell_74 : decode cX6_tell 74 = .ok (.ireturn, 1) := by decide +kernel
theorem dX6_tell_75 : decode cX6_tell 75 = .ok (.iload_n 2, 1) := by decide +kernel
theorem dX6_tell_76 : decode cX6_tell 76 = .ok (.iconst 3, 1) := by decide +kernel
theorem dX6_tell_77 : decode cX6_tell 77 = .ok (.isub, 1) := by decide +kernel
theorem dX6_tell_78 : decode cX6_tell 78 = .ok (.aload_n 0, 1) := by decide +kernel
theorem dX6_tell_79 : decode cX6_tell 79 = .ok (.getfield 31, 3) := by decide +kernel
theorem dX6_tell_82 : decode cX6_tell 82 = .ok (.iload_n 1, 1) := by decide +kernel
theorem dX6_tell_83 : decode cX6_tell 83 = .ok (.iaload, 1) := by decide +kernel
theorem dX6_tell_84 : decode cX6_tell 84 = .ok (.if_icmp .ge 19, 3) := by decide +kernel
theorem dX6_tell_87 : decode cX6_tell 87 = .ok (.aload_n 0, 1) := by decide +kernel
theorem dX6_tell_88 : decode cX6_tell 88 = .ok (.getfield 34, 3) := by decide +kernel
theorem dX6_tell_91 : decode cX6_tell 91 = .ok (.bipush 16, 2) := by decide +kernel
theorem dX6_tell_93 : decode cX6_tell 93 = .ok (.iload_n 1, 1) := by decide +kernel
theorem dX6_tell_94 : decode cX6_tell 94 = .ok (.imul, 1) := by decide +kernel
theorem dX6_tell_95 : decode cX6_tell 95 = .ok (.iload_n 2, 1) := by decide +kernel
theorem dX6_tell_96 : decode cX6_tell 96 = .ok (.iadd, 1) := by decide +kernel
theorem dX6_tell_97 : decode cX6_tell 97 = .ok (.iconst 3, 1) := by decide +kernel
theorem dX6_tell_98 : decode cX6_tell 98 = .ok (.isub, 1) := by decide +kernel
theorem dX6_tell_99 : decode cX6_tell 99 = .ok (.iaload, 1) := by decide +kernel
theorem dX6_tell_100 : decode cX6_tell 100 = .ok (.goto 4, 3) := by decide +kernel
theorem dX6_tell_103 : decode cX6_tell 103 = .ok (.iconst (-1), 1) := by decide +kernel
theorem dX6_tell_104 : decode cX6_tell 104 = .ok (.ireturn, 1) := by decide +kernel
set_option maxRecDepth 20000 in
theorem ggX6_may_X6_isCell : GoodIn wsX6_may wsX6_isCell := goodIn_r _ [8, 9, 10, 11, 7, 12, 13, 14, 47, 48, 49, 50, 51, 52, 53, 54, 55, 56, 57, 58, 59, 60, 61, 62, 63, 64, 65, 66, 67, 68, 69] (by decide +kernel) (by decide +kernel)
set_option maxRecDepth 20000 in
theorem gX6_may_X6_isCell : GoodIn wsX6_may (wsV RX6 76 RX6 yX6_isCell wsX6_isCell) := goodIn_app (goodIn_of _ (by decide +kernel)) ggX6_may_X6_isCell
set_option maxRecDepth 20000 in
theorem ggX6_may_X6_throwsIf : GoodIn wsX6_may wsX6_throwsIf := goodIn_r _ [18, 19, 47, 48, 49, 50, 51, 52, 53, 54, 55, 56, 57, 58, 59, 60, 61, 62, 63, 64, 65, 66, 67, 68, 69] (by decide +kernel) (by decide +kernel)
set_option maxRecDepth 20000 in
theorem gX6_may_X6_throwsIf : GoodIn wsX6_may (wsV RX6 80 RX6 yX6_throwsIf wsX6_throwsIf) := goodIn_app (goodIn_of _ (by decide +kernel)) ggX6_may_X6_throwsIf
set_option maxRecDepth 20000 in
theorem ggX6_may_X6_all : GoodIn wsX6_may wsX6_all := goodIn_r _ [23, 2, 3, 24, 47, 48, 49, 50, 51, 52, 53, 54, 55, 56, 57, 58, 59, 60, 61, 62, 63, 64, 65, 66, 67, 68, 69] (by decide +kernel) (by decide +kernel)
set_option maxRecDepth 20000 in
theorem gX6_may_X6_all : GoodIn wsX6_may (wsV RX6 145 RX6 yX6_all wsX6_all) := goodIn_app (goodIn_of _ (by decide +kernel)) ggX6_may_X6_all
set_option maxRecDepth 20000 in
theorem ggX6_may_X6_units : GoodIn wsX6_may wsX6_units := goodIn_r _ [28, 2, 29, 30, 31, 32, 33, 7, 34, 3, 35, 36, 37, 38, 24, 39, 40, 41, 42, 43, 44, 45, 46, 47, 48, 49, 50, 51, 52, 53, 54, 55, 56, 57, 58, 59, 60, 61, 62, 63, 64, 65, 66, 67, 68, 69] (by decide +kernel) (by decide +kernel)
set_option maxRecDepth 20000 in
theorem gX6_may_X6_units : GoodIn wsX6_may (wsV RX6 148 RX6 yX6_units wsX6_units) := goodIn_app (goodIn_of _ (by decide +kernel)) ggX6_may_X6_units
theorem dX6_may_0 : decode cX6_may 0 = .ok (.aload_n 0, 1) := by decide +kernel
theorem dX6_may_1 : decode cX6_may 1 = .ok (.iconst 1, 1) := by decide +kernel
theorem dX6_may_2 : decode cX6_may 2 = .ok (.aload_n 0, 1) := by decide +kernel
theorem dX6_may_3 : decode cX6_may 3 = .ok (.iload_n 1, 1) := by decide +kernel
theorem dX6_may_4 : decode cX6_may 4 = .ok (.invokevirtual 76, 3) := by decide +kernel
theorem dX6_may_7 : decode cX6_may 7 = .ok (.ifCond .ne 7, 3) := by decide +kernel
theorem dX6_may_10 : decode cX6_may 10 = .ok (.iconst 1, 1) := by decide +kernel
theorem dX6_may_11 : decode cX6_may 11 = .ok (.goto 4, 3) := by decide +kernel
theorem dX6_may_14 : decode cX6_may 14 = .ok (.iconst 0, 1) := by decide +kernel
theorem dX6_may_15 : decode cX6_may 15 = .ok (.invokevirtual 80, 3) := by decide +kernel
theorem dX6_may_18 : decode cX6_may 18 = .ok (.ifCond .eq 5, 3) := by decide +kernel
theorem dX6_may_21 : decode cX6_may 21 = .ok (.iconst 0, 1) := by decide +kernel
theorem dX6_may_22 : decode cX6_may 22 = .ok (.ireturn, 1) := by decide +kernel
theorem dX6_may_23 : decode cX6_may 23 = .ok (.aload_n 0, 1) := by decide +kernel
theorem dX6_may_24 : decode cX6_may 24 = .ok (.invokevirtual 145, 3) := by decide +kernel
theorem dX6_may_27 : decode cX6_may 27 = .ok (.aload_n 0, 1) := by decide +kernel
theorem dX6_may_28 : decode cX6_may 28 = .ok (.aload_n 0, 1) := by decide +kernel
theorem dX6_may_29 : decode cX6_may 29 = .ok (.getfield 107, 3) := by decide +kernel
theorem dX6_may_32 : decode cX6_may 32 = .ok (.invokevirtual 148, 3) := by decide +kernel
theorem dX6_may_35 : decode cX6_may 35 = .ok (.aload_n 0, 1) := by decide +kernel
theorem dX6_may_36 : decode cX6_may 36 = .ok (.getfield 134, 3) := by decide +kernel
theorem dX6_may_39 : decode cX6_may 39 = .ok (.ifCond .eq 7, 3) := by decide +kernel
theorem dX6_may_42 : decode cX6_may 42 = .ok (.iconst 0, 1) := by decide +kernel
theorem dX6_may_43 : decode cX6_may 43 = .ok (.goto 9, 3) := by decide +kernel
theorem dX6_may_46 : decode cX6_may 46 = .ok (.aload_n 0, 1) := by decide +kernel
theorem dX6_may_47 : decode cX6_may 47 = .ok (.getfield 37, 3) := by decide +kernel
theorem dX6_may_50 : decode cX6_may 50 = .ok (.iload_n 1, 1) := by decide +kernel
theorem dX6_may_51 : decode cX6_may 51 = .ok (.iaload, 1) := by decide +kernel
theorem dX6_may_52 : decode cX6_may 52 = .ok (.ireturn, 1) := by decide +kernel
theorem dX6_unit_0 : decode cX6_unit 0 = .ok (.aload_n 0, 1) := by decide +kernel
theorem dX6_unit_1 : decode cX6_unit 1 = .ok (.iconst 0, 1) := by decide +kernel
theorem dX6_unit_2 : decode cX6_unit 2 = .ok (.putfield 63, 3) := by decide +kernel
theorem dX6_unit_5 : decode cX6_unit 5 = .ok (.iload_n 1, 1) := by decide +kernel
theorem dX6_unit_6 : decode cX6_unit 6 = .ok (.ifCond .lt 20, 3) := by decide +kernel
theorem dX6_unit_9 : decode cX6_unit 9 = .ok (.iload_n 1, 1) := by decide +kernel
theorem dX6_unit_10 : decode cX6_unit 10 = .ok (.sipush 255, 3) := by decide +kernel
theorem dX6_unit_13 : decode cX6_unit 13 = .ok (.if_icmp .gt 13, 3) := by decide +kernel
theorem dX6_unit_16 : decode cX6_unit 16 = .ok (.aload_n 0, 1) := by decide +kernel
theorem dX6_unit_17 : decode cX6_unit 17 = .ok (.getfield 169, 3) := by decide +kernel
theorem dX6_unit_20 : decode cX6_unit 20 = .ok (.sipush 300, 3) := by decide +kernel
theorem dX6_unit_23 : decode cX6_unit 23 = .ok (.if_icmp .ne 5, 3) := by decide +kernel
theorem dX6_unit_26 : decode cX6_unit 26 = .ok (.iconst 0, 1) := by decide +kernel
theorem dX6_unit_27 : decode cX6_unit 27 = .ok (.ireturn, 1) := by decide +kernel
theorem dX6_unit_28 : decode cX6_unit 28 = .ok (.aload_n 0, 1) := by decide +kernel
theorem dX6_unit_29 : decode cX6_unit 29 = .ok (.getfield 46, 3) := by decide +kernel
theorem dX6_unit_32 : decode cX6_unit 32 = .ok (.aload_n 0, 1) := by decide +kernel
theorem dX6_unit_33 : decode cX6_unit 33 = .ok (.getfield 169, 3) := by decide +kernel
theorem dX6_unit_36 : decode cX6_unit 36 = .ok (.iload_n 1, 1) := by decide +kernel
theorem dX6_unit_37 : decode cX6_unit 37 = .ok (.iastore, 1) := by decide +kernel
theorem dX6_unit_38 : decode cX6_unit 38 = .ok (.aload_n 0, 1) := by decide +kernel
theorem dX6_unit_39 : decode cX6_unit 39 = .ok (.dup, 1) := by decide +kernel
theorem dX6_unit_40 : decode cX6_unit 40 = .ok (.getfield 169, 3) := by decide +kernel
theorem dX6_unit_43 : decode cX6_unit 43 = .ok (.iconst 1, 1) := by decide +kernel
theorem dX6_unit_44 : decode cX6_unit 44 = .ok (.iadd, 1) := by decide +kernel
theorem dX6_unit_45 : decode cX6_unit 45 = .ok (.putfield 169, 3) := by decide +kernel
theorem dX6_unit_48 : decode cX6_unit 48 = .ok (.iconst 1, 1) := by decide +kernel
theorem dX6_unit_49 : decode cX6_unit 49 = .ok (.ireturn, 1) := by decide +kernel
theorem dX6_look_0 : decode cX6_look 0 = .ok (.aload_n 0, 1) := by decide +kernel
theorem dX6_look_1 : decode cX6_look 1 = .ok (.getfield 172, 3) := by decide +kernel
theorem dX6_look_4 : decode cX6_look 4 = .ok (.aload_n 0, 1) := by decide +kernel
theorem dX6_look_5 : decode cX6_look 5 = .ok (.getfield 169, 3) := by decide +kernel
theorem dX6_look_8 : decode cX6_look 8 = .ok (.if_icmp .ge 15, 3) := by decide +kernel
theorem dX6_look_11 : decode cX6_look 11 = .ok (.aload_n 0, 1) := by decide +kernel
theorem dX6_look_12 : decode cX6_look 12 = .ok (.getfield 46, 3) := by decide +kernel
theorem dX6_look_15 : decode cX6_look 15 = .ok (.aload_n 0, 1) := by decide +kernel
theorem dX6_look_16 : decode cX6_look 16 = .ok (.getfield 172, 3) := by decide +kernel
theorem dX6_look_19 : decode cX6_look 19 = .ok (.iaload, 1) := by decide +kernel
theorem dX6_look_20 : decode cX6_look 20 = .ok (.goto 4, 3) := by decide +kernel
theorem dX6_look_23 : decode cX6_look 23 = .ok (.iconst (-1), 1) := by decide +kernel
theorem dX6_look_24 : decode cX6_look 24 = .ok (.ireturn, 1) := by decide +kernel
set_option maxRecDepth 20000 in
theorem ggX6_isDigit_X6_look : GoodIn wsX6_isDigit wsX6_look := goodIn_r _ [5, 6, 7, 8, 9, 10, 11, 12, 13, 14, 15, 16, 17, 18, 19, 20, 21, 22, 23, 24, 25, 26, 27, 28, 29, 30, 31] (by decide +kernel) (by decide +kernel)
set_option maxRecDepth 20000 in
theorem gX6_isDigit_X6_look : GoodIn wsX6_isDigit (wsV RX6 175 RX6 yX6_look wsX6_look) := goodIn_app (goodIn_of _ (by decide +kernel)) ggX6_isDigit_X6_look
theorem dX6_isDigit_0 : decode cX6_isDigit 0 = .ok (.aload_n 0, 1) := by decide +kernel
theorem dX6_isDigit_1 : decode cX6_isDigit 1 = .ok (.invokevirtual 175, 3) := by decide +kernel
theorem dX6_isDigit_4 : decode cX6_isDigit 4 = .ok (.bipush 48, 2) := by decide +kernel
theorem dX6_isDigit_6 : decode cX6_isDigit 6 = .ok (.if_icmp .lt 16, 3) := by decide +kernel
theorem dX6_isDigit_9 : decode cX6_isDigit 9 = .ok (.aload_n 0, 1) := by decide +kernel
theorem dX6_isDigit_10 : decode cX6_isDigit 10 = .ok (.invokevirtual 175, 3) := by decide +kernel
theorem dX6_isDigit_13 : decode cX6_isDigit 13 = .ok (.bipush 57, 2) := by decide +kernel
theorem dX6_isDigit_15 : decode cX6_isDigit 15 = .ok (.if_icmp .gt 7, 3) := by decide +kernel
theorem dX6_isDigit_18 : decode cX6_isDigit 18 = .ok (.iconst 1, 1) := by decide +kernel
theorem dX6_isDigit_19 : decode cX6_isDigit 19 = .ok (.goto 4, 3) := by decide +kernel
theorem dX6_isDigit_22 : decode cX6_isDigit 22 = .ok (.iconst 0, 1) := by decide +kernel
theorem dX6_isDigit_23 : decode cX6_isDigit 23 = .ok (.ireturn, 1) := by decide +kernel
theorem dX6_wrong_0 : decode cX6_wrong 0 = .ok (.aload_n 0, 1) := by decide +kernel
theorem dX6_wrong_1 : decode cX6_wrong 1 = .ok (.aload_n 0, 1) := by decide +kernel
theorem dX6_wrong_2 : decode cX6_wrong 2 = .ok (.getfield 178, 3) := by decide +kernel
theorem dX6_wrong_5 : decode cX6_wrong 5 = .ok (.ifCond .ge 7, 3) := by decide +kernel
theorem dX6_wrong_8 : decode cX6_wrong 8 = .ok (.iload_n 1, 1) := by decide +kernel
theorem dX6_wrong_9 : decode cX6_wrong 9 = .ok (.goto 7, 3) := by decide +kernel
theorem dX6_wrong_12 : decode cX6_wrong 12 = .ok (.aload_n 0, 1) := by decide +kernel
theorem dX6_wrong_13 : decode cX6_wrong 13 = .ok (.getfield 178, 3) := by decide +kernel
theorem dX6_wrong_16 : decode cX6_wrong 16 = .ok (.putfield 178, 3) := by decide +kernel
theorem dX6_wrong_19 : decode cX6_wrong 19 = .ok (.return_, 1) := by decide +kernel
set_option maxRecDepth 20000 in
theorem ggX6_number_X6_isDigit : GoodIn wsX6_number wsX6_isDigit := goodIn_r _ [6, 7, 8, 9, 5, 10, 1, 11, 12, 18, 19, 20, 21, 22, 23, 24, 25, 26, 27, 28, 29, 30, 31, 32, 33, 34, 35, 36, 37, 38, 39, 40] (by decide +kernel) (by decide +kernel)
set_option maxRecDepth 20000 in
theorem gX6_number_X6_isDigit : GoodIn wsX6_number (wsV RX6 181 RX6 yX6_isDigit wsX6_isDigit) := goodIn_app (goodIn_of _ (by decide +kernel)) ggX6_number_X6_isDigit
set_option maxRecDepth 20000 in
theorem ggX6_number_X6_wrong : GoodIn wsX6_number wsX6_wrong := goodIn_r _ [16, 17, 18, 19, 20, 21, 22, 23, 24, 25, 26, 27, 28, 29, 30, 31, 32, 33, 34, 35, 36, 37, 38, 39, 40] (by decide +kernel) (by decide +kernel)
set_option maxRecDepth 20000 in
theorem gX6_number_X6_wrong : GoodIn wsX6_number (wsV RX6 185 RX6 yX6_wrong wsX6_wrong) := goodIn_app (goodIn_of _ (by decide +kernel)) ggX6_number_X6_wrong
set_option maxRecDepth 20000 in
theorem ggX6_number_X6_look : GoodIn wsX6_number wsX6_look := goodIn_r _ [10, 1, 11, 12, 18, 19, 20, 21, 22, 23, 24, 25, 26, 27, 28, 29, 30, 31, 32, 33, 34, 35, 36, 37, 38, 39, 40] (by decide +kernel) (by decide +kernel)
set_option maxRecDepth 20000 in
theorem gX6_number_X6_look : GoodIn wsX6_number (wsV RX6 175 RX6 yX6_look wsX6_look) := goodIn_app (goodIn_of _ (by decide +kernel)) ggX6_number_X6_look
theorem dX6_number_0 : decode cX6_number 0 = .ok (.aload_n 0, 1) := by decide +kernel
theorem dX6_number_1 : decode cX6_number 1 = .ok (.invokevirtual 181, 3) := by decide +kernel
theorem dX6_number_4 : decode cX6_number 4 = .ok (.ifCond .ne 13, 3) := by decide +kernel
theorem dX6_number_7 : decode cX6_number 7 = .ok (.aload_n 0, 1) := by decide +kernel
theorem dX6_number_8 : decode cX6_number 8 = .ok (.aload_n 0, 1) := by decide +kernel
theorem dX6_number_9 : decode cX6_number 9 = .ok (.getfield 172, 3) := by decide +kernel
theorem dX6_number_12 : decode cX6_number 12 = .ok (.invokevirtual 185, 3) := by decide +kernel
theorem dX6_number_15 : decode cX6_number 15 = .ok (.iconst 0, 1) := by decide +kernel
theorem dX6_number_16 : decode cX6_number 16 = .ok (.ireturn, 1) := by decide +kernel
theorem dX6_number_17 : decode cX6_number 17 = .ok (.aload_n 0, 1) := by decide +kernel
theorem dX6_number_18 : decode cX6_number 18 = .ok (.invokevirtual 175, 3) := by decide +kernel
theorem dX6_number_21 : decode cX6_number 21 = .ok (.bipush 48, 2) := by decide +kernel
theorem dX6_number_23 : decode cX6_number 23 = .ok (.isub, 1) := by decide +kernel
theorem dX6_number_24 : decode cX6_number 24 = .ok (.istore_n 1, 1) := by decide +kernel
theorem dX6_number_25 : decode cX6_number 25 = .ok (.aload_n 0, 1) := by decide +kernel
theorem dX6_number_26 : decode cX6_number 26 = .ok (.dup, 1) := by decide +kernel
theorem dX6_number_27 : decode cX6_number 27 = .ok (.getfield 172, 3) := by decide +kernel
theorem dX6_number_30 : decode cX6_number 30 = .ok (.iconst 1, 1) := by decide +kernel
theorem dX6_number_31 : decode cX6_number 31 = .ok (.iadd, 1) := by decide +kernel
theorem dX6_number_32 : decode cX6_number 32 = .ok (.putfield 172, 3) := by decide +kernel
theorem dX6_number_35 : decode cX6_number 35 = .ok (.iload_n 1, 1) := by decide +kernel
theorem dX6_number_36 : decode cX6_number 36 = .ok (.ifCond .le 33, 3) := by decide +kernel
theorem dX6_number_39 : decode cX6_number 39 = .ok (.aload_n 0, 1) := by decide +kernel
theorem dX6_number_40 : decode cX6_number 40 = .ok (.invokevirtual 181, 3) := by decide +kernel
theorem dX6_number_43 : decode cX6_number 43 = .ok (.ifCond .eq 26, 3) := by decide +kernel
theorem dX6_number_46 : decode cX6_number 46 = .ok (.bipush 10, 2) := by decide +kernel
theorem dX6_number_48 : decode cX6_number 48 = .ok (.iload_n 1, 1) := by decide +kernel
theorem dX6_number_49 : decode cX6_number 49 = .ok (.imul, 1) := by decide +kernel
theorem dX6_number_50 : decode cX6_number 50 = .ok (.aload_n 0, 1) := by decide +kernel
theorem dX6_number_51 : decode cX6_number 51 = .ok (.invokevirtual 175, 3) := by decide +kernel
theorem dX6_number_54 : decode cX6_number 54 = .ok (.iadd, 1) := by decide +kernel
theorem dX6_number_55 : decode cX6_number 55 = .ok (.bipush 48, 2) := by decide +kernel
theorem dX6_number_57 : decode cX6_number 57 = .ok (.isub, 1) := by decide +kernel
theorem dX6_number_58 : decode cX6_number 58 = .ok (.istore_n 1, 1) := by decide +kernel
theorem dX6_number_59 : decode cX6_number 59 = .ok (.aload_n 0, 1) := by decide +kernel
theorem dX6_number_60 : decode cX6_number 60 = .ok (.dup, 1) := by decide +kernel
theorem dX6_number_61 : decode cX6_number 61 = .ok (.getfield 172, 3) := by decide +kernel
theorem dX6_number_64 : decode cX6_number 64 = .ok (.iconst 1, 1) := by decide +kernel
theorem dX6_number_65 : decode cX6_number 65 = .ok (.iadd, 1) := by decide +kernel
theorem dX6_number_66 : decode cX6_number 66 = .ok (.putfield 172, 3) := by decide +kernel
theorem dX6_number_69 : decode cX6_number 69 = .ok (.iload_n 1, 1) := by decide +kernel
theorem dX6_number_70 : decode cX6_number 70 = .ok (.ireturn, 1) := by decide +kernel
set_option maxRecDepth 20000 in
theorem ggX6_expect_X6_look : GoodIn wsX6_expect wsX6_look := goodIn_r _ [7, 2, 8, 9, 14, 15, 16, 17, 18, 19, 20, 21, 22, 23, 24, 25, 26, 27, 28, 29, 30, 31, 32, 33, 34, 35, 36] (by decide +kernel) (by decide +kernel)
set_option maxRecDepth 20000 in
theorem gX6_expect_X6_look : GoodIn wsX6_expect (wsV RX6 175 RX6 yX6_look wsX6_look) := goodIn_app (goodIn_of _ (by decide +kernel)) ggX6_expect_X6_look
set_option maxRecDepth 20000 in
theorem ggX6_expect_X6_wrong : GoodIn wsX6_expect wsX6_wrong := goodIn_r _ [13, 1, 14, 15, 16, 17, 18, 19, 20, 21, 22, 23, 24, 25, 26, 27, 28, 29, 30, 31, 32, 33, 34, 35, 36] (by decide +kernel) (by decide +kernel)
set_option maxRecDepth 20000 in
theorem gX6_expect_X6_wrong : GoodIn wsX6_expect (wsV RX6 185 RX6 yX6_wrong wsX6_wrong) := goodIn_app (goodIn_of _ (by decide +kernel)) ggX6_expect_X6_wrong
theorem dX6_expect_0 : decode cX6_expect 0 = .ok (.aload_n 0, 1) := by decide +kernel
theorem dX6_expect_1 : decode cX6_expect 1 = .ok (.getfield 178, 3) := by decide +kernel
theorem dX6_expect_4 : decode cX6_expect 4 = .ok (.ifCond .lt 4, 3) := by decide +kernel
theorem dX6_expect_7 : decode cX6_expect 7 = .ok (.return_, 1) := by decide +kernel
theorem dX6_expect_8 : decode cX6_expect 8 = .ok (.aload_n 0, 1) := by decide +kernel
theorem dX6_expect_9 : decode cX6_expect 9 = .ok (.invokevirtual 175, 3) := by decide +kernel
theorem dX6_expect_12 : decode cX6_expect 12 = .ok (.iload_n 1, 1) := by decide +kernel
theorem dX6_expect_13 : decode cX6_expect 13 = .ok (.if_icmp .eq 11, 3) := by decide +kernel
theorem dX6_expect_16 : decode cX6_expect 16 = .ok (.aload_n 0, 1) := by decide +kernel
theorem dX6_expect_17 : decode cX6_expect 17 = .ok (.aload_n 0, 1) := by decide +kernel
theorem dX6_expect_18 : decode cX6_expect 18 = .ok (.getfield 172, 3) := by decide +kernel
theorem dX6_expect_21 : decode cX6_expect 21 = .ok (.invokevirtual 185, 3) := by decide +kernel
theorem dX6_expect_24 : decode cX6_expect 24 = .ok (.aload_n 0, 1) := by decide +kernel
theorem dX6_expect_25 : decode cX6_expect 25 = .ok (.dup, 1) := by decide +kernel
theorem dX6_expect_26 : decode cX6_expect 26 = .ok (.getfield 172, 3) := by decide +kernel
theorem dX6_expect_29 : decode cX6_expect 29 = .ok (.iconst 1, 1) := by decide +kernel
theorem dX6_expect_30 : decode cX6_expect 30 = .ok (.iadd, 1) := by decide +kernel
theorem dX6_expect_31 : decode cX6_expect 31 = .ok (.putfield 172, 3) := by decide +kernel
theorem dX6_expect_34 : decode cX6_expect 34 = .ok (.return_, 1) := by decide +kernel
set_option maxRecDepth 20000 in
theorem ggX6_readLiteral_X6_wrong : GoodIn wsX6_readLiteral wsX6_wrong := goodIn_r _ [8, 3, 55, 56, 57, 58, 59, 60, 61, 62, 63, 64, 65, 66, 67, 68, 69, 70, 71, 72, 73, 74, 75, 76, 77] (by decide +kernel) (by decide +kernel)
set_option maxRecDepth 20000 in
theorem gX6_readLiteral_X6_wrong : GoodIn wsX6_readLiteral (wsV RX6 185 RX6 yX6_wrong wsX6_wrong) := goodIn_app (goodIn_of _ (by decide +kernel)) ggX6_readLiteral_X6_wrong
set_option maxRecDepth 20000 in
theorem ggX6_readLiteral_X6_look : GoodIn wsX6_readLiteral wsX6_look := goodIn_r _ [12, 2, 13, 14, 55, 56, 57, 58, 59, 60, 61, 62, 63, 64, 65, 66, 67, 68, 69, 70, 71, 72, 73, 74, 75, 76, 77] (by decide +kernel) (by decide +kernel)
set_option maxRecDepth 20000 in
theorem gX6_readLiteral_X6_look : GoodIn wsX6_readLiteral (wsV RX6 175 RX6 yX6_look wsX6_look) := goodIn_app (goodIn_of _ (by decide +kernel)) ggX6_readLiteral_X6_look
set_option maxRecDepth 20000 in
theorem ggX6_readLiteral_X6_number : GoodIn wsX6_readLiteral wsX6_number := goodIn_r _ [18, 2, 19, 20, 21, 7, 22, 9, 10, 11, 12, 13, 14, 4, 5, 6, 8, 3, 55, 56, 57, 58, 59, 60, 61, 62, 63, 64, 65, 66, 67, 68, 69, 70, 71, 72, 73, 74, 75, 76, 77] (by decide +kernel) (by decide +kernel)
set_option maxRecDepth 20000 in
theorem gX6_readLiteral_X6_number : GoodIn wsX6_readLiteral (wsV RX6 188 RX6 yX6_number wsX6_number) := goodIn_app (goodIn_of _ (by decide +kernel)) ggX6_readLiteral_X6_number
set_option maxRecDepth 20000 in
theorem ggX6_readLiteral_X6_isCell : GoodIn wsX6_readLiteral wsX6_isCell := goodIn_r _ [26, 27, 28, 29, 7, 30, 31, 32, 55, 56, 57, 58, 59, 60, 61, 62, 63, 64, 65, 66, 67, 68, 69, 70, 71, 72, 73, 74, 75, 76, 77] (by decide +kernel) (by decide +kernel)
set_option maxRecDepth 20000 in
theorem gX6_readLiteral_X6_isCell : GoodIn wsX6_readLiteral (wsV RX6 76 RX6 yX6_isCell wsX6_isCell) := goodIn_app (goodIn_of _ (by decide +kernel)) ggX6_readLiteral_X6_isCell
set_option maxRecDepth 20000 in
theorem ggX6_readLiteral_X6_expect : GoodIn wsX6_readLiteral wsX6_expect := goodIn_r _ [36, 3, 2, 9, 10, 11, 7, 12, 13, 14, 4, 5, 6, 8, 55, 56, 57, 58, 59, 60, 61, 62, 63, 64, 65, 66, 67, 68, 69, 70, 71, 72, 73, 74, 75, 76, 77] (by decide +kernel) (by decide +kernel)
set_option maxRecDepth 20000 in
theorem gX6_readLiteral_X6_expect : GoodIn wsX6_readLiteral (wsV RX6 191 RX6 yX6_expect wsX6_expect) := goodIn_app (goodIn_of _ (by decide +kernel)) ggX6_readLiteral_X6_expect
set_option maxRecDepth 20000 in
theorem ggX6_readLiteral_X6_isSymbol : GoodIn wsX6_readLiteral wsX6_isSymbol := goodIn_r _ [40, 41, 55, 56, 57, 58, 59, 60, 61, 62, 63, 64, 65, 66, 67, 68, 69, 70, 71, 72, 73, 74, 75, 76, 77] (by decide +kernel) (by decide +kernel)
set_option maxRecDepth 20000 in
theorem gX6_readLiteral_X6_isSymbol : GoodIn wsX6_readLiteral (wsV RX6 87 RX6 yX6_isSymbol wsX6_isSymbol) := goodIn_app (goodIn_of _ (by decide +kernel)) ggX6_readLiteral_X6_isSymbol
set_option maxRecDepth 20000 in
theorem ggX6_readLiteral_X6_literalOf : GoodIn wsX6_readLiteral wsX6_literalOf := goodIn_r _ [45, 41, 55, 56, 57, 58, 59, 60, 61, 62, 63, 64, 65, 66, 67, 68, 69, 70, 71, 72, 73, 74, 75, 76, 77] (by decide +kernel) (by decide +kernel)
set_option maxRecDepth 20000 in
theorem gX6_readLiteral_X6_literalOf : GoodIn wsX6_readLiteral (wsV RX6 114 RX6 yX6_literalOf wsX6_literalOf) := goodIn_app (goodIn_of _ (by decide +kernel)) ggX6_readLiteral_X6_literalOf
set_option maxRecDepth 20000 in
theorem ggX6_readLiteral_X6_has : GoodIn wsX6_readLiteral wsX6_has := goodIn_r _ [49, 1, 50, 55, 56, 57, 58, 59, 60, 61, 62, 63, 64, 65, 66, 67, 68, 69, 70, 71, 72, 73, 74, 75, 76, 77] (by decide +kernel) (by decide +kernel)
set_option maxRecDepth 20000 in
theorem gX6_readLiteral_X6_has : GoodIn wsX6_readLiteral (wsV RX6 118 RX6 yX6_has wsX6_has) := goodIn_app (goodIn_of _ (by decide +kernel)) ggX6_readLiteral_X6_has
set_option maxRecDepth 20000 in
theorem ggX6_readLiteral_X6_add : GoodIn wsX6_readLiteral wsX6_add := goodIn_r _ [54, 50, 1, 55, 56, 57, 58, 59, 60, 61, 62, 63, 64, 65, 66, 67, 68, 69, 70, 71, 72, 73, 74, 75, 76, 77] (by decide +kernel) (by decide +kernel)
set_option maxRecDepth 20000 in
theorem gX6_readLiteral_X6_add : GoodIn wsX6_readLiteral (wsV RX6 121 RX6 yX6_add wsX6_add) := goodIn_app (goodIn_of _ (by decide +kernel)) ggX6_readLiteral_X6_add
theorem dX6_readLiteral_0 : decode cX6_readLiteral 0 = .ok (.aload_n 0, 1) := by decide +kernel
theorem dX6_readLiteral_1 : decode cX6_readLiteral 1 = .ok (.getfield 31, 3) := by decide +kernel
theorem dX6_readLiteral_4 : decode cX6_readLiteral 4 = .ok (.iload_n 1, 1) := by decide +kernel
theorem dX6_readLiteral_5 : decode cX6_readLiteral 5 = .ok (.iaload, 1) := by decide +kernel
theorem dX6_readLiteral_6 : decode cX6_readLiteral 6 = .ok (.bipush 16, 2) := by decide +kernel
theorem dX6_readLiteral_8 : decode cX6_readLiteral 8 = .ok (.if_icmp .ne 12, 3) := by decide +kernel
theorem dX6_readLiteral_11 : decode cX6_readLiteral 11 = .ok (.aload_n 0, 1) := by decide +kernel
theorem dX6_readLiteral_12 : decode cX6_readLiteral 12 = .ok (.aload_n 0, 1) := by decide +kernel
theorem dX6_readLiteral_13 : decode cX6_readLiteral 13 = .ok (.getfield 172, 3) := by decide +kernel
theorem dX6_readLiteral_16 : decode cX6_readLiteral 16 = .ok (.invokevirtual 185, 3) := by decide +kernel
theorem dX6_readLiteral_19 : decode cX6_readLiteral 19 = .ok (.return_, 1) := by decide +kernel
theorem dX6_readLiteral_20 : decode cX6_readLiteral 20 = .ok (.aload_n 0, 1) := by decide +kernel
theorem dX6_readLiteral_21 : decode cX6_readLiteral 21 = .ok (.dup, 1) := by decide +kernel
theorem dX6_readLiteral_22 : decode cX6_readLiteral 22 = .ok (.getfield 172, 3) := by decide +kernel
theorem dX6_readLiteral_25 : decode cX6_readLiteral 25 = .ok (.iconst 1, 1) := by decide +kernel
theorem dX6_readLiteral_26 : decode cX6_readLiteral 26 = .ok (.iadd, 1) := by decide +kernel
theorem dX6_readLiteral_27 : decode cX6_readLiteral 27 = .ok (.putfield 172, 3) := by decide +kernel
theorem dX6_readLiteral_30 : decode cX6_readLiteral 30 = .ok (.aload_n 0, 1) := by decide +kernel
theorem dX6_readLiteral_31 : decode cX6_readLiteral 31 = .ok (.invokevirtual 175, 3) := by decide +kernel
theorem dX6_readLiteral_34 : decode cX6_readLiteral 34 = .ok (.bipush 43, 2) := by decide +kernel
theorem dX6_readLiteral_36 : decode cX6_readLiteral 36 = .ok (.if_icmp .ne 7, 3) := by decide +kernel
theorem dX6_readLiteral_39 : decode cX6_readLiteral 39 = .ok (.iconst 1, 1) := by decide +kernel
theorem dX6_readLiteral_40 : decode cX6_readLiteral 40 = .ok (.goto 4, 3) := by decide +kernel
theorem dX6_readLiteral_43 : decode cX6_readLiteral 43 = .ok (.iconst 0, 1) := by decide +kernel
theorem dX6_readLiteral_44 : decode cX6_readLiteral 44 = .ok (.istore_n 2, 1) := by decide +kernel
theorem dX6_readLiteral_45 : decode cX6_readLiteral 45 = .ok (.iload_n 2, 1) := by decide +kernel
theorem dX6_readLiteral_46 : decode cX6_readLiteral 46 = .ok (.ifCond .ne 20, 3) := by decide +kernel
theorem dX6_readLiteral_49 : decode cX6_readLiteral 49 = .ok (.aload_n 0, 1) := by decide +kernel
theorem dX6_readLiteral_50 : decode cX6_readLiteral 50 = .ok (.invokevirtual 175, 3) := by decide +kernel
theorem dX6_readLiteral_53 : decode cX6_readLiteral 53 = .ok (.bipush 45, 2) := by decide +kernel
theorem dX6_readLiteral_55 : decode cX6_readLiteral 55 = .ok (.if_icmp .eq 11, 3) := by decide +kernel
theorem dX6_readLiteral_58 : decode cX6_readLiteral 58 = .ok (.aload_n 0, 1) := by decide +kernel
theorem dX6_readLiteral_59 : decode cX6_readLiteral 59 = .ok (.aload_n 0, 1) := by decide +kernel
theorem dX6_readLiteral_60 : decode cX6_readLiteral 60 = .ok (.getfield 172, 3) := by decide +kernel
theorem dX6_readLiteral_63 : decode cX6_readLiteral 63 = .ok (.invokevirtual 185, 3) := by decide +kernel
theorem dX6_readLiteral_66 : decode cX6_readLiteral 66 = .ok (.aload_n 0, 1) := by decide +kernel
theorem dX6_readLiteral_67 : decode cX6_readLiteral 67 = .ok (.dup, 1) := by decide +kernel
theorem dX6_readLiteral_68 : decode cX6_readLiteral 68 = .ok (.getfield 172, 3) := by decide +kernel
theorem dX6_readLiteral_71 : decode cX6_readLiteral 71 = .ok (.iconst 1, 1) := by decide +kernel
theorem dX6_readLiteral_72 : decode cX6_readLiteral 72 = .ok (.iadd, 1) := by decide +kernel
theorem dX6_readLiteral_73 : decode cX6_readLiteral 73 = .ok (.putfield 172, 3) := by decide +kernel
theorem dX6_readLiteral_76 : decode cX6_readLiteral 76 = .ok (.aload_n 0, 1) := by decide +kernel
theorem dX6_readLiteral_77 : decode cX6_readLiteral 77 = .ok (.getfield 178, 3) := by decide +kernel
theorem dX6_readLiteral_80 : decode cX6_readLiteral 80 = .ok (.ifCond .ge 10, 3) := by decide +kernel
theorem dX6_readLiteral_83 : decode cX6_readLiteral 83 = .ok (.aload_n 0, 1) := by decide +kernel
theorem dX6_readLiteral_84 : decode cX6_readLiteral 84 = .ok (.invokevirtual 188, 3) := by decide +kernel
theorem dX6_readLiteral_87 : decode cX6_readLiteral 87 = .ok (.goto 4, 3) := by decide +kernel
theorem dX6_readLiteral_90 : decode cX6_readLiteral 90 = .ok (.iconst 0, 1) := by decide +kernel
theorem dX6_readLiteral_91 : decode cX6_readLiteral 91 = .ok (.istore_n 3, 1) := by decide +kernel
theorem dX6_readLiteral_92 : decode cX6_readLiteral 92 = .ok (.aload_n 0, 1) := by decide +kernel
theorem dX6_readLiteral_93 : decode cX6_readLiteral 93 = .ok (.getfield 178, 3) := by decide +kernel
theorem dX6_readLiteral_96 : decode cX6_readLiteral 96 = .ok (.ifCond .ge 21, 3) := by decide +kernel
theorem dX6_readLiteral_99 : decode cX6_readLiteral 99 = .ok (.aload_n 0, 1) := by decide +kernel
theorem dX6_readLiteral_100 : decode cX6_readLiteral 100 = .ok (.iload_n 3, 1) := by decide +kernel
theorem dX6_readLiteral_101 : decode cX6_readLiteral 101 = .ok (.invokevirtual 76, 3) := by decide +kernel
theorem dX6_readLiteral_104 : decode cX6_readLiteral 104 = .ok (.ifCond .ne 13, 3) := by decide +kernel
theorem dX6_readLiteral_107 : decode cX6_readLiteral 107 = .ok (.aload_n 0, 1) := by decide +kernel
theorem dX6_readLiteral_108 : decode cX6_readLiteral 108 = .ok (.aload_n 0, 1) := by decide +kernel
theorem dX6_readLiteral_109 : decode cX6_readLiteral 109 = .ok (.getfield 172, 3) := by decide +kernel
theorem dX6_readLiteral_112 : decode cX6_readLiteral 112 = .ok (.iconst 1, 1) := by decide +kernel
theorem dX6_readLiteral_113 : decode cX6_readLiteral 113 = .ok (.isub, 1) := by decide +kernel
theorem dX6_readLiteral_114 : decode cX6_readLiteral 114 = .ok (.invokevirtual 185, 3) := by decide +kernel
theorem dX6_readLiteral_117 : decode cX6_readLiteral 117 = .ok (.aload_n 0, 1) := by decide +kernel
theorem dX6_readLiteral_118 : decode cX6_readLiteral 118 = .ok (.bipush 46, 2) := by decide +kernel
theorem dX6_readLiteral_120 : decode cX6_readLiteral 120 = .ok (.invokevirtual 191, 3) := by decide +kernel
theorem dX6_readLiteral_123 : decode cX6_readLiteral 123 = .ok (.aload_n 0, 1) := by decide +kernel
theorem dX6_readLiteral_124 : decode cX6_readLiteral 124 = .ok (.getfield 178, 3) := by decide +kernel
theorem dX6_readLiteral_127 : decode cX6_readLiteral 127 = .ok (.ifCond .ge 10, 3) := by decide +kernel
theorem dX6_readLiteral_130 : decode cX6_readLiteral 130 = .ok (.aload_n 0, 1) := by decide +kernel
theorem dX6_readLiteral_131 : decode cX6_readLiteral 131 = .ok (.invokevirtual 188, 3) := by decide +kernel
theorem dX6_readLiteral_134 : decode cX6_readLiteral 134 = .ok (.goto 4, 3) := by decide +kernel
theorem dX6_readLiteral_137 : decode cX6_readLiteral 137 = .ok (.iconst 0, 1) := by decide +kernel
theorem dX6_readLiteral_138 : decode cX6_readLiteral 138 = .ok (.istore 4, 2) := by decide +kernel
theorem dX6_readLiteral_140 : decode cX6_readLiteral 140 = .ok (.aload_n 0, 1) := by decide +kernel
theorem dX6_readLiteral_141 : decode cX6_readLiteral 141 = .ok (.getfield 178, 3) := by decide +kernel
theorem dX6_readLiteral_144 : decode cX6_readLiteral 144 = .ok (.ifCond .ge 38, 3) := by decide +kernel
theorem dX6_readLiteral_147 : decode cX6_readLiteral 147 = .ok (.aload_n 0, 1) := by decide +kernel
theorem dX6_readLiteral_148 : decode cX6_readLiteral 148 = .ok (.iload 4, 2) := by decide +kernel
theorem dX6_readLiteral_150 : decode cX6_readLiteral 150 = .ok (.invokevirtual 87, 3) := by decide +kernel
theorem dX6_readLiteral_153 : decode cX6_readLiteral 153 = .ok (.ifCond .eq 19, 3) := by decide +kernel
theorem dX6_readLiteral_156 : decode cX6_readLiteral 156 = .ok (.aload_n 0, 1) := by decide +kernel
theorem dX6_readLiteral_157 : decode cX6_readLiteral 157 = .ok (.iload_n 1, 1) := by decide +kernel
theorem dX6_readLiteral_158 : decode cX6_readLiteral 158 = .ok (.aload_n 0, 1) := by decide +kernel
theorem dX6_readLiteral_159 : decode cX6_readLiteral 159 = .ok (.iload_n 3, 1) := by decide +kernel
theorem dX6_readLiteral_160 : decode cX6_readLiteral 160 = .ok (.iload 4, 2) := by decide +kernel
theorem dX6_readLiteral_162 : decode cX6_readLiteral 162 = .ok (.iload_n 2, 1) := by decide +kernel
theorem dX6_readLiteral_163 : decode cX6_readLiteral 163 = .ok (.invokevirtual 114, 3) := by decide +kernel
theorem dX6_readLiteral_166 : decode cX6_readLiteral 166 = .ok (.invokevirtual 118, 3) := by decide +kernel
theorem dX6_readLiteral_169 : decode cX6_readLiteral 169 = .ok (.ifCond .eq 13, 3) := by decide +kernel
theorem dX6_readLiteral_172 : decode cX6_readLiteral 172 = .ok (.aload_n 0, 1) := by decide +kernel
theorem dX6_readLiteral_173 : decode cX6_readLiteral 173 = .ok (.aload_n 0, 1) := by decide +kernel
theorem dX6_readLiteral_174 : decode cX6_readLiteral 174 = .ok (.getfield 172, 3) := by decide +kernel
theorem dX6_readLiteral_177 : decode cX6_readLiteral 177 = .ok (.iconst 1, 1) := by decide +kernel
theorem dX6_readLiteral_178 : decode cX6_readLiteral 178 = .ok (.isub, 1) := by decide +kernel
theorem dX6_readLiteral_179 : decode cX6_readLiteral 179 = .ok (.invokevirtual 185, 3) := by decide +kernel
theorem dX6_readLiteral_182 : decode cX6_readLiteral 182 = .ok (.aload_n 0, 1) := by decide +kernel
theorem dX6_readLiteral_183 : decode cX6_readLiteral 183 = .ok (.getfield 178, 3) := by decide +kernel
theorem dX6_readLiteral_186 : decode cX6_readLiteral 186 = .ok (.ifCond .ge 16, 3) := by decide +kernel
theorem dX6_readLiteral_189 : decode cX6_readLiteral 189 = .ok (.aload_n 0, 1) := by decide +kernel
theorem dX6_readLiteral_190 : decode cX6_readLiteral 190 = .ok (.iload_n 1, 1) := by decide +kernel
theorem dX6_readLiteral_191 : decode cX6_readLiteral 191 = .ok (.aload_n 0, 1) := by decide +kernel
theorem dX6_readLiteral_192 : decode cX6_readLiteral 192 = .ok (.iload_n 3, 1) := by decide +kernel
theorem dX6_readLiteral_193 : decode cX6_readLiteral 193 = .ok (.iload 4, 2) := by decide +kernel
theorem dX6_readLiteral_195 : decode cX6_readLiteral 195 = .ok (.iload_n 2, 1) := by decide +kernel
theorem dX6_readLiteral_196 : decode cX6_readLiteral 196 = .ok (.invokevirtual 114, 3) := by decide +kernel
theorem dX6_readLiteral_199 : decode cX6_readLiteral 199 = .ok (.invokevirtual 121, 3) := by decide +kernel
theorem dX6_readLiteral_202 : decode cX6_readLiteral 202 = .ok (.return_, 1) := by decide +kernel
set_option maxRecDepth 20000 in
theorem ggX6_readLine_X6_look : GoodIn wsX6_readLine wsX6_look := goodIn_r _ [7, 1, 8, 9, 65, 66, 67, 68, 69, 70, 71, 72, 73, 74, 75, 76, 77, 78, 79, 80, 81, 82, 83, 84, 85, 86, 87] (by decide +kernel) (by decide +kernel)
set_option maxRecDepth 20000 in
theorem gX6_readLine_X6_look : GoodIn wsX6_readLine (wsV RX6 175 RX6 yX6_look wsX6_look) := goodIn_app (goodIn_of _ (by decide +kernel)) ggX6_readLine_X6_look
set_option maxRecDepth 20000 in
theorem ggX6_readLine_X6_wrong : GoodIn wsX6_readLine wsX6_wrong := goodIn_r _ [13, 2, 65, 66, 67, 68, 69, 70, 71, 72, 73, 74, 75, 76, 77, 78, 79, 80, 81, 82, 83, 84, 85, 86, 87] (by decide +kernel) (by decide +kernel)
set_option maxRecDepth 20000 in
theorem gX6_readLine_X6_wrong : GoodIn wsX6_readLine (wsV RX6 185 RX6 yX6_wrong wsX6_wrong) := goodIn_app (goodIn_of _ (by decide +kernel)) ggX6_readLine_X6_wrong
set_option maxRecDepth 20000 in
theorem ggX6_readLine_X6_number : GoodIn wsX6_readLine wsX6_number := goodIn_r _ [17, 1, 18, 19, 20, 6, 21, 3, 4, 5, 7, 8, 9, 10, 11, 12, 13, 2, 65, 66, 67, 68, 69, 70, 71, 72, 73, 74, 75, 76, 77, 78, 79, 80, 81, 82, 83, 84, 85, 86, 87] (by decide +kernel) (by decide +kernel)
set_option maxRecDepth 20000 in
theorem gX6_readLine_X6_number : GoodIn wsX6_readLine (wsV RX6 188 RX6 yX6_number wsX6_number) := goodIn_app (goodIn_of _ (by decide +kernel)) ggX6_readLine_X6_number
set_option maxRecDepth 20000 in
theorem ggX6_readLine_X6_begin : GoodIn wsX6_readLine wsX6_begin := goodIn_r _ [25, 26, 27, 28, 65, 66, 67, 68, 69, 70, 71, 72, 73, 74, 75, 76, 77, 78, 79, 80, 81, 82, 83, 84, 85, 86, 87] (by decide +kernel) (by decide +kernel)
set_option maxRecDepth 20000 in
theorem gX6_readLine_X6_begin : GoodIn wsX6_readLine (wsV RX6 110 RX6 yX6_begin wsX6_begin) := goodIn_app (goodIn_of _ (by decide +kernel)) ggX6_readLine_X6_begin
set_option maxRecDepth 20000 in
theorem ggX6_readLine_X6_readLiteral : GoodIn wsX6_readLine wsX6_readLiteral := goodIn_r _ [32, 28, 1, 2, 10, 11, 12, 6, 13, 3, 4, 5, 7, 8, 9, 14, 15, 16, 17, 18, 19, 20, 21, 33, 34, 35, 36, 37, 38, 39, 40, 41, 42, 43, 44, 45, 46, 47, 48, 49, 50, 51, 52, 53, 54, 55, 56, 57, 58, 59, 60, 61, 62, 63, 64, 65, 66, 67, 68, 69, 70, 71, 72, 73, 74, 75, 76, 77, 78, 79, 80, 81, 82, 83, 84, 85, 86, 87] (by decide +kernel) (by decide +kernel)
set_option maxRecDepth 20000 in
theorem gX6_readLine_X6_readLiteral : GoodIn wsX6_readLine (wsV RX6 194 RX6 yX6_readLiteral wsX6_readLiteral) := goodIn_app (goodIn_of _ (by decide +kernel)) ggX6_readLine_X6_readLiteral
set_option maxRecDepth 20000 in
theorem ggX6_readLine_X6_expect : GoodIn wsX6_readLine wsX6_expect := goodIn_r _ [46, 2, 1, 3, 4, 5, 6, 7, 8, 9, 10, 11, 12, 13, 65, 66, 67, 68, 69, 70, 71, 72, 73, 74, 75, 76, 77, 78, 79, 80, 81, 82, 83, 84, 85, 86, 87] (by decide +kernel) (by decide +kernel)
set_option maxRecDepth 20000 in
theorem gX6_readLine_X6_expect : GoodIn wsX6_readLine (wsV RX6 191 RX6 yX6_expect wsX6_expect) := goodIn_app (goodIn_of _ (by decide +kernel)) ggX6_readLine_X6_expect
theorem dX6_readLine_0 : decode cX6_readLine 0 = .ok (.aload_n 0, 1) := by decide +kernel
theorem dX6_readLine_1 : decode cX6_readLine 1 = .ok (.invokevirtual 175, 3) := by decide +kernel
theorem dX6_readLine_4 : decode cX6_readLine 4 = .ok (.istore_n 3, 1) := by decide +kernel
theorem dX6_readLine_5 : decode cX6_readLine 5 = .ok (.iload_n 3, 1) := by decide +kernel
theorem dX6_readLine_6 : decode cX6_readLine 6 = .ok (.bipush 114, 2) := by decide +kernel
theorem dX6_readLine_8 : decode cX6_readLine 8 = .ok (.if_icmp .ne 7, 3) := by decide +kernel
theorem dX6_readLine_11 : decode cX6_readLine 11 = .ok (.iconst 0, 1) := by decide +kernel
theorem dX6_readLine_12 : decode cX6_readLine 12 = .ok (.goto 34, 3) := by decide +kernel
theorem dX6_readLine_15 : decode cX6_readLine 15 = .ok (.iload_n 3, 1) := by decide +kernel
theorem dX6_readLine_16 : decode cX6_readLine 16 = .ok (.bipush 117, 2) := by decide +kernel
theorem dX6_readLine_18 : decode cX6_readLine 18 = .ok (.if_icmp .ne 7, 3) := by decide +kernel
theorem dX6_readLine_21 : decode cX6_readLine 21 = .ok (.iconst 1, 1) := by decide +kernel
theorem dX6_readLine_22 : decode cX6_readLine 22 = .ok (.goto 24, 3) := by decide +kernel
theorem dX6_readLine_25 : decode cX6_readLine 25 = .ok (.iload_n 3, 1) := by decide +kernel
theorem dX6_readLine_26 : decode cX6_readLine 26 = .ok (.bipush 115, 2) := by decide +kernel
theorem dX6_readLine_28 : decode cX6_readLine 28 = .ok (.if_icmp .ne 7, 3) := by decide +kernel
theorem dX6_readLine_31 : decode cX6_readLine 31 = .ok (.iconst 2, 1) := by decide +kernel
theorem dX6_readLine_32 : decode cX6_readLine 32 = .ok (.goto 14, 3) := by decide +kernel
theorem dX6_readLine_35 : decode cX6_readLine 35 = .ok (.iload_n 3, 1) := by decide +kernel
theorem dX6_readLine_36 : decode cX6_readLine 36 = .ok (.bipush 98, 2) := by decide +kernel
theorem dX6_readLine_38 : decode cX6_readLine 38 = .ok (.if_icmp .ne 7, 3) := by decide +kernel
theorem dX6_readLine_41 : decode cX6_readLine 41 = .ok (.iconst 3, 1) := by decide +kernel
theorem dX6_readLine_42 : decode cX6_readLine 42 = .ok (.goto 4, 3) := by decide +kernel
theorem dX6_readLine_45 : decode cX6_readLine 45 = .ok (.iconst (-1), 1) := by decide +kernel
theorem dX6_readLine_46 : decode cX6_readLine 46 = .ok (.istore 4, 2) := by decide +kernel
theorem dX6_readLine_48 : decode cX6_readLine 48 = .ok (.iload 4, 2) := by decide +kernel
theorem dX6_readLine_50 : decode cX6_readLine 50 = .ok (.ifCond .ge 12, 3) := by decide +kernel
theorem dX6_readLine_53 : decode cX6_readLine 53 = .ok (.aload_n 0, 1) := by decide +kernel
theorem dX6_readLine_54 : decode cX6_readLine 54 = .ok (.aload_n 0, 1) := by decide +kernel
theorem dX6_readLine_55 : decode cX6_readLine 55 = .ok (.getfield 172, 3) := by decide +kernel
theorem dX6_readLine_58 : decode cX6_readLine 58 = .ok (.invokevirtual 185, 3) := by decide +kernel
theorem dX6_readLine_61 : decode cX6_readLine 61 = .ok (.return_, 1) := by decide +kernel
theorem dX6_readLine_62 : decode cX6_readLine 62 = .ok (.aload_n 0, 1) := by decide +kernel
theorem dX6_readLine_63 : decode cX6_readLine 63 = .ok (.dup, 1) := by decide +kernel
theorem dX6_readLine_64 : decode cX6_readLine 64 = .ok (.getfield 172, 3) := by decide +kernel
theorem dX6_readLine_67 : decode cX6_readLine 67 = .ok (.iconst 1, 1) := by decide +kernel
theorem dX6_readLine_68 : decode cX6_readLine 68 = .ok (.iadd, 1) := by decide +kernel
theorem dX6_readLine_69 : decode cX6_readLine 69 = .ok (.putfield 172, 3) := by decide +kernel
theorem dX6_readLine_72 : decode cX6_readLine 72 = .ok (.aload_n 0, 1) := by decide +kernel
theorem dX6_readLine_73 : decode cX6_readLine 73 = .ok (.iload_n 1, 1) := by decide +kernel
theorem dX6_readLine_74 : decode cX6_readLine 74 = .ok (.iload 4, 2) := by decide +kernel
theorem dX6_readLine_76 : decode cX6_readLine 76 = .ok (.iload 4, 2) := by decide +kernel
theorem dX6_readLine_78 : decode cX6_readLine 78 = .ok (.iconst 2, 1) := by decide +kernel
theorem dX6_readLine_79 : decode cX6_readLine 79 = .ok (.irem, 1) := by decide +kernel
theorem dX6_readLine_80 : decode cX6_readLine 80 = .ok (.ifCond .ne 10, 3) := by decide +kernel
theorem dX6_readLine_83 : decode cX6_readLine 83 = .ok (.aload_n 0, 1) := by decide +kernel
theorem dX6_readLine_84 : decode cX6_readLine 84 = .ok (.invokevirtual 188, 3) := by decide +kernel
theorem dX6_readLine_87 : decode cX6_readLine 87 = .ok (.goto 4, 3) := by decide +kernel
theorem dX6_readLine_90 : decode cX6_readLine 90 = .ok (.iconst 0, 1) := by decide +kernel
theorem dX6_readLine_91 : decode cX6_readLine 91 = .ok (.invokevirtual 110, 3) := by decide +kernel
theorem dX6_readLine_94 : decode cX6_readLine 94 = .ok (.aload_n 0, 1) := by decide +kernel
theorem dX6_readLine_95 : decode cX6_readLine 95 = .ok (.getfield 178, 3) := by decide +kernel
theorem dX6_readLine_98 : decode cX6_readLine 98 = .ok (.ifCond .ge 20, 3) := by decide +kernel
theorem dX6_readLine_101 : decode cX6_readLine 101 = .ok (.aload_n 0, 1) := by decide +kernel
theorem dX6_readLine_102 : decode cX6_readLine 102 = .ok (.invokevirtual 175, 3) := by decide +kernel
theorem dX6_readLine_105 : decode cX6_readLine 105 = .ok (.bipush 32, 2) := by decide +kernel
theorem dX6_readLine_107 : decode cX6_readLine 107 = .ok (.if_icmp .ne 11, 3) := by decide +kernel
theorem dX6_readLine_110 : decode cX6_readLine 110 = .ok (.aload_n 0, 1) := by decide +kernel
theorem dX6_readLine_111 : decode cX6_readLine 111 = .ok (.iload_n 1, 1) := by decide +kernel
theorem dX6_readLine_112 : decode cX6_readLine 112 = .ok (.invokevirtual 194, 3) := by decide +kernel
theorem dX6_readLine_115 : decode cX6_readLine 115 = .ok (.goto (-21), 3) := by decide +kernel
theorem dX6_readLine_118 : decode cX6_readLine 118 = .ok (.aload_n 0, 1) := by decide +kernel
theorem dX6_readLine_119 : decode cX6_readLine 119 = .ok (.getfield 178, 3) := by decide +kernel
theorem dX6_readLine_122 : decode cX6_readLine 122 = .ok (.ifCond .ge 26, 3) := by decide +kernel
theorem dX6_readLine_125 : decode cX6_readLine 125 = .ok (.aload_n 0, 1) := by decide +kernel
theorem dX6_readLine_126 : decode cX6_readLine 126 = .ok (.invokevirtual 175, 3) := by decide +kernel
theorem dX6_readLine_129 : decode cX6_readLine 129 = .ok (.bipush 59, 2) := by decide +kernel
theorem dX6_readLine_131 : decode cX6_readLine 131 = .ok (.if_icmp .ne 17, 3) := by decide +kernel
theorem dX6_readLine_134 : decode cX6_readLine 134 = .ok (.iload_n 2, 1) := by decide +kernel
theorem dX6_readLine_135 : decode cX6_readLine 135 = .ok (.bipush 60, 2) := by decide +kernel
theorem dX6_readLine_137 : decode cX6_readLine 137 = .ok (.if_icmp .ne 11, 3) := by decide +kernel
theorem dX6_readLine_140 : decode cX6_readLine 140 = .ok (.aload_n 0, 1) := by decide +kernel
theorem dX6_readLine_141 : decode cX6_readLine 141 = .ok (.aload_n 0, 1) := by decide +kernel
theorem dX6_readLine_142 : decode cX6_readLine 142 = .ok (.getfield 172, 3) := by decide +kernel
theorem dX6_readLine_145 : decode cX6_readLine 145 = .ok (.invokevirtual 185, 3) := by decide +kernel
theorem dX6_readLine_148 : decode cX6_readLine 148 = .ok (.aload_n 0, 1) := by decide +kernel
theorem dX6_readLine_149 : decode cX6_readLine 149 = .ok (.bipush 59, 2) := by decide +kernel
theorem dX6_readLine_151 : decode cX6_readLine 151 = .ok (.invokevirtual 191, 3) := by decide +kernel
theorem dX6_readLine_154 : decode cX6_readLine 154 = .ok (.return_, 1) := by decide +kernel
set_option maxRecDepth 20000 in
theorem ggX6_read_X6_readLine : GoodIn wsX6_read wsX6_readLine := goodIn_r _ [14, 2, 3, 15, 16, 17, 13, 18, 4, 19, 20, 21, 22, 23, 24, 25, 26, 27, 28, 29, 30, 31, 32, 33, 34, 35, 6, 7, 8, 36, 37, 38, 39, 40, 41, 42, 43, 44, 45, 46, 47, 48, 49, 50, 51, 52, 53, 54, 55, 56, 57, 58, 59, 60, 61, 62, 63, 64, 65, 66, 9, 67, 68, 69, 70, 71, 72, 73, 74, 75, 76, 77, 78, 79, 80, 81, 82, 83, 84, 85, 86, 87, 88, 89, 90, 91, 92, 93] (by decide +kernel) (by decide +kernel)
set_option maxRecDepth 20000 in
theorem gX6_read_X6_readLine : GoodIn wsX6_read (wsV RX6 197 RX6 yX6_readLine wsX6_readLine) := goodIn_app (goodIn_of _ (by decide +kernel)) ggX6_read_X6_readLine
set_option maxRecDepth 20000 in
theorem ggX6_read_X6_begin : GoodIn wsX6_read wsX6_begin := goodIn_r _ [35, 6, 7, 8, 71, 72, 73, 74, 75, 76, 77, 78, 79, 80, 81, 82, 83, 84, 85, 86, 87, 88, 89, 90, 91, 92, 93] (by decide +kernel) (by decide +kernel)
set_option maxRecDepth 20000 in
theorem gX6_read_X6_begin : GoodIn wsX6_read (wsV RX6 110 RX6 yX6_begin wsX6_begin) := goodIn_app (goodIn_of _ (by decide +kernel)) ggX6_read_X6_begin
set_option maxRecDepth 20000 in
theorem ggX6_read_X6_add : GoodIn wsX6_read wsX6_add := goodIn_r _ [70, 9, 8, 71, 72, 73, 74, 75, 76, 77, 78, 79, 80, 81, 82, 83, 84, 85, 86, 87, 88, 89, 90, 91, 92, 93] (by decide +kernel) (by decide +kernel)
set_option maxRecDepth 20000 in
theorem gX6_read_X6_add : GoodIn wsX6_read (wsV RX6 121 RX6 yX6_add wsX6_add) := goodIn_app (goodIn_of _ (by decide +kernel)) ggX6_read_X6_add
theorem dX6_read_0 : decode cX6_read 0 = .ok (.aload_n 0, 1) := by decide +kernel
theorem dX6_read_1 : decode cX6_read 1 = .ok (.iconst 0, 1) := by decide +kernel
theorem dX6_read_2 : decode cX6_read 2 = .ok (.putfield 63, 3) := by decide +kernel
theorem dX6_read_5 : decode cX6_read 5 = .ok (.aload_n 0, 1) := by decide +kernel
theorem dX6_read_6 : decode cX6_read 6 = .ok (.iconst 0, 1) := by decide +kernel
theorem dX6_read_7 : decode cX6_read 7 = .ok (.putfield 172, 3) := by decide +kernel
theorem dX6_read_10 : decode cX6_read 10 = .ok (.aload_n 0, 1) := by decide +kernel
theorem dX6_read_11 : decode cX6_read 11 = .ok (.iconst (-1), 1) := by decide +kernel
theorem dX6_read_12 : decode cX6_read 12 = .ok (.putfield 178, 3) := by decide +kernel
theorem dX6_read_15 : decode cX6_read 15 = .ok (.iconst 0, 1) := by decide +kernel
theorem dX6_read_16 : decode cX6_read 16 = .ok (.istore_n 1, 1) := by decide +kernel
theorem dX6_read_17 : decode cX6_read 17 = .ok (.aload_n 0, 1) := by decide +kernel
theorem dX6_read_18 : decode cX6_read 18 = .ok (.getfield 178, 3) := by decide +kernel
theorem dX6_read_21 : decode cX6_read 21 = .ok (.ifCond .ge 45, 3) := by decide +kernel
theorem dX6_read_24 : decode cX6_read 24 = .ok (.aload_n 0, 1) := by decide +kernel
theorem dX6_read_25 : decode cX6_read 25 = .ok (.getfield 172, 3) := by decide +kernel
theorem dX6_read_28 : decode cX6_read 28 = .ok (.aload_n 0, 1) := by decide +kernel
theorem dX6_read_29 : decode cX6_read 29 = .ok (.getfield 169, 3) := by decide +kernel
theorem dX6_read_32 : decode cX6_read 32 = .ok (.if_icmp .ge 34, 3) := by decide +kernel
theorem dX6_read_35 : decode cX6_read 35 = .ok (.aload_n 0, 1) := by decide +kernel
theorem dX6_read_36 : decode cX6_read 36 = .ok (.bipush 60, 2) := by decide +kernel
theorem dX6_read_38 : decode cX6_read 38 = .ok (.iload_n 1, 1) := by decide +kernel
theorem dX6_read_39 : decode cX6_read 39 = .ok (.bipush 60, 2) := by decide +kernel
theorem dX6_read_41 : decode cX6_read 41 = .ok (.if_icmp .ge 7, 3) := by decide +kernel
theorem dX6_read_44 : decode cX6_read 44 = .ok (.iload_n 1, 1) := by decide +kernel
theorem dX6_read_45 : decode cX6_read 45 = .ok (.goto 5, 3) := by decide +kernel
theorem dX6_read_48 : decode cX6_read 48 = .ok (.bipush 59, 2) := by decide +kernel
theorem dX6_read_50 : decode cX6_read 50 = .ok (.iadd, 1) := by decide +kernel
theorem dX6_read_51 : decode cX6_read 51 = .ok (.aload_n 0, 1) := by decide +kernel
theorem dX6_read_52 : decode cX6_read 52 = .ok (.getfield 107, 3) := by decide +kernel
theorem dX6_read_55 : decode cX6_read 55 = .ok (.iload_n 1, 1) := by decide +kernel
theorem dX6_read_56 : decode cX6_read 56 = .ok (.iadd, 1) := by decide +kernel
theorem dX6_read_57 : decode cX6_read 57 = .ok (.invokevirtual 197, 3) := by decide +kernel
theorem dX6_read_60 : decode cX6_read 60 = .ok (.iinc 1 1, 3) := by decide +kernel
theorem dX6_read_63 : decode cX6_read 63 = .ok (.goto (-46), 3) := by decide +kernel
theorem dX6_read_66 : decode cX6_read 66 = .ok (.aload_n 0, 1) := by decide +kernel
theorem dX6_read_67 : decode cX6_read 67 = .ok (.iconst 0, 1) := by decide +kernel
theorem dX6_read_68 : decode cX6_read 68 = .ok (.putfield 169, 3) := by decide +kernel
theorem dX6_read_71 : decode cX6_read 71 = .ok (.aload_n 0, 1) := by decide +kernel
theorem dX6_read_72 : decode cX6_read 72 = .ok (.getfield 178, 3) := by decide +kernel
theorem dX6_read_75 : decode cX6_read 75 = .ok (.ifCond .lt 10, 3) := by decide +kernel
theorem dX6_read_78 : decode cX6_read 78 = .ok (.iconst (-1), 1) := by decide +kernel
theorem dX6_read_79 : decode cX6_read 79 = .ok (.aload_n 0, 1) := by decide +kernel
theorem dX6_read_80 : decode cX6_read 80 = .ok (.getfield 178, 3) := by decide +kernel
theorem dX6_read_83 : decode cX6_read 83 = .ok (.isub, 1) := by decide +kernel
theorem dX6_read_84 : decode cX6_read 84 = .ok (.ireturn, 1) := by decide +kernel
theorem dX6_read_85 : decode cX6_read 85 = .ok (.iconst 0, 1) := by decide +kernel
theorem dX6_read_86 : decode cX6_read 86 = .ok (.istore_n 2, 1) := by decide +kernel
theorem dX6_read_87 : decode cX6_read 87 = .ok (.iload_n 2, 1) := by decide +kernel
theorem dX6_read_88 : decode cX6_read 88 = .ok (.iload_n 1, 1) := by decide +kernel
theorem dX6_read_89 : decode cX6_read 89 = .ok (.if_icmp .ge 88, 3) := by decide +kernel
theorem dX6_read_92 : decode cX6_read 92 = .ok (.aload_n 0, 1) := by decide +kernel
theorem dX6_read_93 : decode cX6_read 93 = .ok (.aload_n 0, 1) := by decide +kernel
theorem dX6_read_94 : decode cX6_read 94 = .ok (.getfield 107, 3) := by decide +kernel
theorem dX6_read_97 : decode cX6_read 97 = .ok (.aload_n 0, 1) := by decide +kernel
theorem dX6_read_98 : decode cX6_read 98 = .ok (.getfield 25, 3) := by decide +kernel
theorem dX6_read_101 : decode cX6_read 101 = .ok (.bipush 60, 2) := by decide +kernel
theorem dX6_read_103 : decode cX6_read 103 = .ok (.iload_n 2, 1) := by decide +kernel
theorem dX6_read_104 : decode cX6_read 104 = .ok (.iadd, 1) := by decide +kernel
theorem dX6_read_105 : decode cX6_read 105 = .ok (.iaload, 1) := by decide +kernel
theorem dX6_read_106 : decode cX6_read 106 = .ok (.aload_n 0, 1) := by decide +kernel
theorem dX6_read_107 : decode cX6_read 107 = .ok (.getfield 28, 3) := by decide +kernel
theorem dX6_read_110 : decode cX6_read 110 = .ok (.bipush 60, 2) := by decide +kernel
theorem dX6_read_112 : decode cX6_read 112 = .ok (.iload_n 2, 1) := by decide +kernel
theorem dX6_read_113 : decode cX6_read 113 = .ok (.iadd, 1) := by decide +kernel
theorem dX6_read_114 : decode cX6_read 114 = .ok (.iaload, 1) := by decide +kernel
theorem dX6_read_115 : decode cX6_read 115 = .ok (.invokevirtual 110, 3) := by decide +kernel
theorem dX6_read_118 : decode cX6_read 118 = .ok (.iconst 0, 1) := by decide +kernel
theorem dX6_read_119 : decode cX6_read 119 = .ok (.istore_n 3, 1) := by decide +kernel
theorem dX6_read_120 : decode cX6_read 120 = .ok (.iload_n 3, 1) := by decide +kernel
theorem dX6_read_121 : decode cX6_read 121 = .ok (.aload_n 0, 1) := by decide +kernel
theorem dX6_read_122 : decode cX6_read 122 = .ok (.getfield 31, 3) := by decide +kernel
theorem dX6_read_125 : decode cX6_read 125 = .ok (.bipush 60, 2) := by decide +kernel
theorem dX6_read_127 : decode cX6_read 127 = .ok (.iload_n 2, 1) := by decide +kernel
theorem dX6_read_128 : decode cX6_read 128 = .ok (.iadd, 1) := by decide +kernel
theorem dX6_read_129 : decode cX6_read 129 = .ok (.iaload, 1) := by decide +kernel
theorem dX6_read_130 : decode cX6_read 130 = .ok (.if_icmp .ge 31, 3) := by decide +kernel
theorem dX6_read_133 : decode cX6_read 133 = .ok (.aload_n 0, 1) := by decide +kernel
theorem dX6_read_134 : decode cX6_read 134 = .ok (.aload_n 0, 1) := by decide +kernel
theorem dX6_read_135 : decode cX6_read 135 = .ok (.getfield 107, 3) := by decide +kernel
theorem dX6_read_138 : decode cX6_read 138 = .ok (.aload_n 0, 1) := by decide +kernel
theorem dX6_read_139 : decode cX6_read 139 = .ok (.getfield 34, 3) := by decide +kernel
theorem dX6_read_142 : decode cX6_read 142 = .ok (.bipush 16, 2) := by decide +kernel
theorem dX6_read_144 : decode cX6_read 144 = .ok (.bipush 60, 2) := by decide +kernel
theorem dX6_read_146 : decode cX6_read 146 = .ok (.iload_n 2, 1) := by decide +kernel
theorem dX6_read_147 : decode cX6_read 147 = .ok (.iadd, 1) := by decide +kernel
theorem dX6_read_148 : decode cX6_read 148 = .ok (.imul, 1) := by decide +kernel
theorem dX6_read_149 : decode cX6_read 149 = .ok (.iload_n 3, 1) := by decide +kernel
theorem dX6_read_150 : decode cX6_read 150 = .ok (.iadd, 1) := by decide +kernel
theorem dX6_read_151 : decode cX6_read 151 = .ok (.iaload, 1) := by decide +kernel
theorem dX6_read_152 : decode cX6_read 152 = .ok (.invokevirtual 121, 3) := by decide +kernel
theorem dX6_read_155 : decode cX6_read 155 = .ok (.iinc 3 1, 3) := by decide +kernel
theorem dX6_read_158 : decode cX6_read 158 = .ok (.goto (-38), 3) := by decide +kernel
theorem dX6_read_161 : decode cX6_read 161 = .ok (.aload_n 0, 1) := by decide +kernel
theorem dX6_read_162 : decode cX6_read 162 = .ok (.dup, 1) := by decide +kernel
theorem dX6_read_163 : decode cX6_read 163 = .ok (.getfield 107, 3) := by decide +kernel
theorem dX6_read_166 : decode cX6_read 166 = .ok (.iconst 1, 1) := by decide +kernel
theorem dX6_read_167 : decode cX6_read 167 = .ok (.iadd, 1) := by decide +kernel
theorem dX6_read_168 : decode cX6_read 168 = .ok (.putfield 107, 3) := by decide +kernel
theorem dX6_read_171 : decode cX6_read 171 = .ok (.iinc 2 1, 3) := by decide +kernel
theorem dX6_read_174 : decode cX6_read 174 = .ok (.goto (-87), 3) := by decide +kernel
theorem dX6_read_177 : decode cX6_read 177 = .ok (.iload_n 1, 1) := by decide +kernel
theorem dX6_read_178 : decode cX6_read 178 = .ok (.ireturn, 1) := by decide +kernel
