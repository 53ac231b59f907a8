set_option maxRecDepth 20000 in
theorem ggX6_clear_X6_isRow : GoodIn wsX6_clear wsX6_isRow := goodIn_r _ [6] (by decide +kernel) (by decide +kernel)
set_option maxRecDepth 20000 in
theorem gX6_clear_X6_isRow : GoodIn wsX6_clear (va_wsS RX6 53 yX6_isRow wsX6_isRow) := goodIn_app (goodIn_of _ (by decide +kernel)) ggX6_clear_X6_isRow
theorem dX6_clear_0 : decode cX6_clear 0 = .ok (.aload_n 0, 1) := by decide +kernel
theorem dX6_clear_1 : decode cX6_clear 1 = .ok (.iconst 0, 1) := by decide +kernel
theorem dX6_clear_2 : decode cX6_clear 2 = .ok (.putfield 50, 3) := by decide +kernel
theorem dX6_clear_5 : decode cX6_clear 5 = .ok (.iload_n 1, 1) := by decide +kernel
theorem dX6_clear_6 : decode cX6_clear 6 = .ok (.invokestatic 53, 3) := by decide +kernel
theorem dX6_clear_9 : decode cX6_clear 9 = .ok (.ifCond .ne 5, 3) := by decide +kernel
theorem dX6_clear_12 : decode cX6_clear 12 = .ok (.iconst 0, 1) := by decide +kernel
theorem dX6_clear_13 : decode cX6_clear 13 = .ok (.ireturn, 1) := by decide +kernel
theorem dX6_clear_14 : decode cX6_clear 14 = .ok (.aload_n 0, 1) := by decide +kernel
theorem dX6_clear_15 : decode cX6_clear 15 = .ok (.getfield 7, 3) := by decide +kernel
theorem dX6_clear_18 : decode cX6_clear 18 = .ok (.iload_n 1, 1) := by decide +kernel
theorem dX6_clear_19 : decode cX6_clear 19 = .ok (.iconst 0, 1) := by decide +kernel
theorem dX6_clear_20 : decode cX6_clear 20 = .ok (.iastore, 1) := by decide +kernel
theorem dX6_clear_21 : decode cX6_clear 21 = .ok (.iconst 1, 1) := by decide +kernel
theorem dX6_clear_22 : decode cX6_clear 22 = .ok (.ireturn, 1) := by decide +kernel
set_option maxRecDepth 20000 in
theorem ggX6_size_X6_isRow : GoodIn wsX6_size wsX6_isRow := goodIn_r _ [6] (by decide +kernel) (by decide +kernel)
set_option maxRecDepth 20000 in
theorem gX6_size_X6_isRow : GoodIn wsX6_size (va_wsS RX6 53 yX6_isRow wsX6_isRow) := goodIn_app (goodIn_of _ (by decide +kernel)) ggX6_size_X6_isRow
theorem dX6_size_0 : decode cX6_size 0 = .ok (.aload_n 0, 1) := by decide +kernel
theorem dX6_size_1 : decode cX6_size 1 = .ok (.iconst 0, 1) := by decide +kernel
theorem dX6_size_2 : decode cX6_size 2 = .ok (.putfield 50, 3) := by decide +kernel
theorem dX6_size_5 : decode cX6_size 5 = .ok (.iload_n 1, 1) := by decide +kernel
theorem dX6_size_6 : decode cX6_size 6 = .ok (.invokestatic 53, 3) := by decide +kernel
theorem dX6_size_9 : decode cX6_size 9 = .ok (.ifCond .eq 12, 3) := by decide +kernel
theorem dX6_size_12 : decode cX6_size 12 = .ok (.aload_n 0, 1) := by decide +kernel
theorem dX6_size_13 : decode cX6_size 13 = .ok (.getfield 7, 3) := by decide +kernel
theorem dX6_size_16 : decode cX6_size 16 = .ok (.iload_n 1, 1) := by decide +kernel
theorem dX6_size_17 : decode cX6_size 17 = .ok (.iaload, 1) := by decide +kernel
theorem dX6_size_18 : decode cX6_size 18 = .ok (.goto 4, 3) := by decide +kernel
theorem dX6_size_21 : decode cX6_size 21 = .ok (.iconst (-1), 1) := by decide +kernel
theorem dX6_size_22 : decode cX6_size 22 = .ok (.ireturn, 1) := by decide +kernel
set_option maxRecDepth 20000 in
theorem ggX6_symbol_X6_isRow : GoodIn wsX6_symbol wsX6_isRow := goodIn_r _ [7] (by decide +kernel) (by decide +kernel)
set_option maxRecDepth 20000 in
theorem gX6_symbol_X6_isRow : GoodIn wsX6_symbol (va_wsS RX6 53 yX6_isRow wsX6_isRow) := goodIn_app (goodIn_of _ (by decide +kernel)) ggX6_symbol_X6_isRow
theorem dX6_symbol_0 : decode cX6_symbol 0 = .ok (.aload_n 0, 1) := by decide +kernel
theorem dX6_symbol_1 : decode cX6_symbol 1 = .ok (.iconst 0, 1) := by decide +kernel
theorem dX6_symbol_2 : decode cX6_symbol 2 = .ok (.putfield 50, 3) := by decide +kernel
theorem dX6_symbol_5 : decode cX6_symbol 5 = .ok (.iload_n 1, 1) := by decide +kernel
theorem dX6_symbol_6 : decode cX6_symbol 6 = .ok (.invokestatic 53, 3) := by decide +kernel
theorem dX6_symbol_9 : decode cX6_symbol 9 = .ok (.ifCond .eq 31, 3) := by decide +kernel
theorem dX6_symbol_12 : decode cX6_symbol 12 = .ok (.iload_n 2, 1) := by decide +kernel
theorem dX6_symbol_13 : decode cX6_symbol 13 = .ok (.ifCond .lt 27, 3) := by decide +kernel
theorem dX6_symbol_16 : decode cX6_symbol 16 = .ok (.iload_n 2, 1) := by decide +kernel
theorem dX6_symbol_17 : decode cX6_symbol 17 = .ok (.aload_n 0, 1) := by decide +kernel
theorem dX6_symbol_18 : decode cX6_symbol 18 = .ok (.getfield 7, 3) := by decide +kernel
theorem dX6_symbol_21 : decode cX6_symbol 21 = .ok (.iload_n 1, 1) := by decide +kernel
theorem dX6_symbol_22 : decode cX6_symbol 22 = .ok (.iaload, 1) := by decide +kernel
theorem dX6_symbol_23 : decode cX6_symbol 23 = .ok (.if_icmp .ge 17, 3) := by decide +kernel
theorem dX6_symbol_26 : decode cX6_symbol 26 = .ok (.aload_n 0, 1) := by decide +kernel
theorem dX6_symbol_27 : decode cX6_symbol 27 = .ok (.getfield 13, 3) := by decide +kernel
theorem dX6_symbol_30 : decode cX6_symbol 30 = .ok (.bipush 20, 2) := by decide +kernel
theorem dX6_symbol_32 : decode cX6_symbol 32 = .ok (.iload_n 1, 1) := by decide +kernel
theorem dX6_symbol_33 : decode cX6_symbol 33 = .ok (.imul, 1) := by decide +kernel
theorem dX6_symbol_34 : decode cX6_symbol 34 = .ok (.iload_n 2, 1) := by decide +kernel
theorem dX6_symbol_35 : decode cX6_symbol 35 = .ok (.iadd, 1) := by decide +kernel
theorem dX6_symbol_36 : decode cX6_symbol 36 = .ok (.iaload, 1) := by decide +kernel
theorem dX6_symbol_37 : decode cX6_symbol 37 = .ok (.goto 4, 3) := by decide +kernel
theorem dX6_symbol_40 : decode cX6_symbol 40 = .ok (.iconst (-1), 1) := by decide +kernel
theorem dX6_symbol_41 : decode cX6_symbol 41 = .ok (.i2s, 1) := by decide +kernel
theorem dX6_symbol_42 : decode cX6_symbol 42 = .ok (.ireturn, 1) := by decide +kernel
theorem dX6_same_0 : decode cX6_same 0 = .ok (.aload_n 0, 1) := by decide +kernel
theorem dX6_same_1 : decode cX6_same 1 = .ok (.getfield 13, 3) := by decide +kernel
theorem dX6_same_4 : decode cX6_same 4 = .ok (.bipush 20, 2) := by decide +kernel
theorem dX6_same_6 : decode cX6_same 6 = .ok (.iload_n 1, 1) := by decide +kernel
theorem dX6_same_7 : decode cX6_same 7 = .ok (.imul, 1) := by decide +kernel
theorem dX6_same_8 : decode cX6_same 8 = .ok (.iload_n 2, 1) := by decide +kernel
theorem dX6_same_9 : decode cX6_same 9 = .ok (.iadd, 1) := by decide +kernel
theorem dX6_same_10 : decode cX6_same 10 = .ok (.iaload, 1) := by decide +kernel
theorem dX6_same_11 : decode cX6_same 11 = .ok (.aload_n 0, 1) := by decide +kernel
theorem dX6_same_12 : decode cX6_same 12 = .ok (.getfield 13, 3) := by decide +kernel
theorem dX6_same_15 : decode cX6_same 15 = .ok (.bipush 20, 2) := by decide +kernel
theorem dX6_same_17 : decode cX6_same 17 = .ok (.iload_n 3, 1) := by decide +kernel
theorem dX6_same_18 : decode cX6_same 18 = .ok (.imul, 1) := by decide +kernel
theorem dX6_same_19 : decode cX6_same 19 = .ok (.iload 4, 2) := by decide +kernel
theorem dX6_same_21 : decode cX6_same 21 = .ok (.iadd, 1) := by decide +kernel
theorem dX6_same_22 : decode cX6_same 22 = .ok (.iaload, 1) := by decide +kernel
theorem dX6_same_23 : decode cX6_same 23 = .ok (.if_icmp .ne 7, 3) := by decide +kernel
theorem dX6_same_26 : decode cX6_same 26 = .ok (.iconst 1, 1) := by decide +kernel
theorem dX6_same_27 : decode cX6_same 27 = .ok (.goto 4, 3) := by decide +kernel
theorem dX6_same_30 : decode cX6_same 30 = .ok (.iconst 0, 1) := by decide +kernel
theorem dX6_same_31 : decode cX6_same 31 = .ok (.ireturn, 1) := by decide +kernel
set_option maxRecDepth 20000 in
theorem ggX6_fill_X6_same : GoodIn wsX6_fill wsX6_same := goodIn_r _ [7, 8, 9, 10, 11, 12, 13, 14, 15, 16, 17, 18, 19, 20, 21, 22, 23, 24, 25, 26, 27] (by decide +kernel) (by decide +kernel)
set_option maxRecDepth 20000 in
theorem gX6_fill_X6_same : GoodIn wsX6_fill (wsV RX6 57 RX6 yX6_same wsX6_same) := goodIn_app (goodIn_of _ (by decide +kernel)) ggX6_fill_X6_same
theorem dX6_fill_0 : decode cX6_fill 0 = .ok (.aload_n 0, 1) := by decide +kernel
theorem dX6_fill_1 : decode cX6_fill 1 = .ok (.getfield 7, 3) := by decide +kernel
theorem dX6_fill_4 : decode cX6_fill 4 = .ok (.iload_n 1, 1) := by decide +kernel
theorem dX6_fill_5 : decode cX6_fill 5 = .ok (.iaload, 1) := by decide +kernel
theorem dX6_fill_6 : decode cX6_fill 6 = .ok (.istore_n 3, 1) := by decide +kernel
theorem dX6_fill_7 : decode cX6_fill 7 = .ok (.aload_n 0, 1) := by decide +kernel
theorem dX6_fill_8 : decode cX6_fill 8 = .ok (.getfield 7, 3) := by decide +kernel
theorem dX6_fill_11 : decode cX6_fill 11 = .ok (.iload_n 2, 1) := by decide +kernel
theorem dX6_fill_12 : decode cX6_fill 12 = .ok (.iaload, 1) := by decide +kernel
theorem dX6_fill_13 : decode cX6_fill 13 = .ok (.istore 4, 2) := by decide +kernel
theorem dX6_fill_15 : decode cX6_fill 15 = .ok (.iload_n 3, 1) := by decide +kernel
theorem dX6_fill_16 : decode cX6_fill 16 = .ok (.istore 5, 2) := by decide +kernel
theorem dX6_fill_18 : decode cX6_fill 18 = .ok (.iload 5, 2) := by decide +kernel
theorem dX6_fill_20 : decode cX6_fill 20 = .ok (.ifCond .lt 164, 3) := by decide +kernel
theorem dX6_fill_23 : decode cX6_fill 23 = .ok (.iload 4, 2) := by decide +kernel
theorem dX6_fill_25 : decode cX6_fill 25 = .ok (.istore 6, 2) := by decide +kernel
theorem dX6_fill_27 : decode cX6_fill 27 = .ok (.iload 6, 2) := by decide +kernel
theorem dX6_fill_29 : decode cX6_fill 29 = .ok (.ifCond .lt 149, 3) := by decide +kernel
theorem dX6_fill_32 : decode cX6_fill 32 = .ok (.iload_n 3, 1) := by decide +kernel
theorem dX6_fill_33 : decode cX6_fill 33 = .ok (.iload 5, 2) := by decide +kernel
theorem dX6_fill_35 : decode cX6_fill 35 = .ok (.isub, 1) := by decide +kernel
theorem dX6_fill_36 : decode cX6_fill 36 = .ok (.iload 4, 2) := by decide +kernel
theorem dX6_fill_38 : decode cX6_fill 38 = .ok (.iadd, 1) := by decide +kernel
theorem dX6_fill_39 : decode cX6_fill 39 = .ok (.iload 6, 2) := by decide +kernel
theorem dX6_fill_41 : decode cX6_fill 41 = .ok (.isub, 1) := by decide +kernel
theorem dX6_fill_42 : decode cX6_fill 42 = .ok (.istore 7, 2) := by decide +kernel
theorem dX6_fill_44 : decode cX6_fill 44 = .ok (.iload 5, 2) := by decide +kernel
theorem dX6_fill_46 : decode cX6_fill 46 = .ok (.iload_n 3, 1) := by decide +kernel
theorem dX6_fill_47 : decode cX6_fill 47 = .ok (.if_icmp .ge 45, 3) := by decide +kernel
theorem dX6_fill_50 : decode cX6_fill 50 = .ok (.iload 6, 2) := by decide +kernel
theorem dX6_fill_52 : decode cX6_fill 52 = .ok (.iload 4, 2) := by decide +kernel
theorem dX6_fill_54 : decode cX6_fill 54 = .ok (.if_icmp .ge 38, 3) := by decide +kernel
theorem dX6_fill_57 : decode cX6_fill 57 = .ok (.aload_n 0, 1) := by decide +kernel
theorem dX6_fill_58 : decode cX6_fill 58 = .ok (.iload_n 1, 1) := by decide +kernel
theorem dX6_fill_59 : decode cX6_fill 59 = .ok (.iload 5, 2) := by decide +kernel
theorem dX6_fill_61 : decode cX6_fill 61 = .ok (.iload_n 2, 1) := by decide +kernel
theorem dX6_fill_62 : decode cX6_fill 62 = .ok (.iload 6, 2) := by decide +kernel
theorem dX6_fill_64 : decode cX6_fill 64 = .ok (.invokevirtual 57, 3) := by decide +kernel
theorem dX6_fill_67 : decode cX6_fill 67 = .ok (.ifCond .eq 25, 3) := by decide +kernel
theorem dX6_fill_70 : decode cX6_fill 70 = .ok (.aload_n 0, 1) := by decide +kernel
theorem dX6_fill_71 : decode cX6_fill 71 = .ok (.getfield 34, 3) := by decide +kernel
theorem dX6_fill_74 : decode cX6_fill 74 = .ok (.bipush 21, 2) := by decide +kernel
theorem dX6_fill_76 : decode cX6_fill 76 = .ok (.iload 5, 2) := by decide +kernel
theorem dX6_fill_78 : decode cX6_fill 78 = .ok (.iconst 1, 1) := by decide +kernel
theorem dX6_fill_79 : decode cX6_fill 79 = .ok (.iadd, 1) := by decide +kernel
theorem dX6_fill_80 : decode cX6_fill 80 = .ok (.imul, 1) := by decide +kernel
theorem dX6_fill_81 : decode cX6_fill 81 = .ok (.iload 6, 2) := by decide +kernel
theorem dX6_fill_83 : decode cX6_fill 83 = .ok (.iadd, 1) := by decide +kernel
theorem dX6_fill_84 : decode cX6_fill 84 = .ok (.iconst 1, 1) := by decide +kernel
theorem dX6_fill_85 : decode cX6_fill 85 = .ok (.iadd, 1) := by decide +kernel
theorem dX6_fill_86 : decode cX6_fill 86 = .ok (.iaload, 1) := by decide +kernel
theorem dX6_fill_87 : decode cX6_fill 87 = .ok (.istore 7, 2) := by decide +kernel
theorem dX6_fill_89 : decode cX6_fill 89 = .ok (.goto 68, 3) := by decide +kernel
theorem dX6_fill_92 : decode cX6_fill 92 = .ok (.iload 5, 2) := by decide +kernel
theorem dX6_fill_94 : decode cX6_fill 94 = .ok (.iload_n 3, 1) := by decide +kernel
theorem dX6_fill_95 : decode cX6_fill 95 = .ok (.if_icmp .ge 62, 3) := by decide +kernel
theorem dX6_fill_98 : decode cX6_fill 98 = .ok (.iload 6, 2) := by decide +kernel
theorem dX6_fill_100 : decode cX6_fill 100 = .ok (.iload 4, 2) := by decide +kernel
theorem dX6_fill_102 : decode cX6_fill 102 = .ok (.if_icmp .ge 55, 3) := by decide +kernel
theorem dX6_fill_105 : decode cX6_fill 105 = .ok (.aload_n 0, 1) := by decide +kernel
theorem dX6_fill_106 : decode cX6_fill 106 = .ok (.getfield 34, 3) := by decide +kernel
theorem dX6_fill_109 : decode cX6_fill 109 = .ok (.bipush 21, 2) := by decide +kernel
theorem dX6_fill_111 : decode cX6_fill 111 = .ok (.iload 5, 2) := by decide +kernel
theorem dX6_fill_113 : decode cX6_fill 113 = .ok (.iconst 1, 1) := by decide +kernel
theorem dX6_fill_114 : decode cX6_fill 114 = .ok (.iadd, 1) := by decide +kernel
theorem dX6_fill_115 : decode cX6_fill 115 = .ok (.imul, 1) := by decide +kernel
theorem dX6_fill_116 : decode cX6_fill 116 = .ok (.iload 6, 2) := by decide +kernel
theorem dX6_fill_118 : decode cX6_fill 118 = .ok (.iadd, 1) := by decide +kernel
theorem dX6_fill_119 : decode cX6_fill 119 = .ok (.iaload, 1) := by decide +kernel
theorem dX6_fill_120 : decode cX6_fill 120 = .ok (.istore 8, 2) := by decide +kernel
theorem dX6_fill_122 : decode cX6_fill 122 = .ok (.aload_n 0, 1) := by decide +kernel
theorem dX6_fill_123 : decode cX6_fill 123 = .ok (.getfield 34, 3) := by decide +kernel
theorem dX6_fill_126 : decode cX6_fill 126 = .ok (.bipush 21, 2) := by decide +kernel
theorem dX6_fill_128 : decode cX6_fill 128 = .ok (.iload 5, 2) := by decide +kernel
theorem dX6_fill_130 : decode cX6_fill 130 = .ok (.imul, 1) := by decide +kernel
theorem dX6_fill_131 : decode cX6_fill 131 = .ok (.iload 6, 2) := by decide +kernel
theorem dX6_fill_133 : decode cX6_fill 133 = .ok (.iadd, 1) := by decide +kernel
theorem dX6_fill_134 : decode cX6_fill 134 = .ok (.iconst 1, 1) := by decide +kernel
theorem dX6_fill_135 : decode cX6_fill 135 = .ok (.iadd, 1) := by decide +kernel
theorem dX6_fill_136 : decode cX6_fill 136 = .ok (.iaload, 1) := by decide +kernel
theorem dX6_fill_137 : decode cX6_fill 137 = .ok (.istore 9, 2) := by decide +kernel
theorem dX6_fill_139 : decode cX6_fill 139 = .ok (.iconst 1, 1) := by decide +kernel
theorem dX6_fill_140 : decode cX6_fill 140 = .ok (.iload 8, 2) := by decide +kernel
theorem dX6_fill_142 : decode cX6_fill 142 = .ok (.iload 9, 2) := by decide +kernel
theorem dX6_fill_144 : decode cX6_fill 144 = .ok (.if_icmp .ge 8, 3) := by decide +kernel
theorem dX6_fill_147 : decode cX6_fill 147 = .ok (.iload 8, 2) := by decide +kernel
theorem dX6_fill_149 : decode cX6_fill 149 = .ok (.goto 5, 3) := by decide +kernel
theorem dX6_fill_152 : decode cX6_fill 152 = .ok (.iload 9, 2) := by decide +kernel
theorem dX6_fill_154 : decode cX6_fill 154 = .ok (.iadd, 1) := by decide +kernel
theorem dX6_fill_155 : decode cX6_fill 155 = .ok (.istore 7, 2) := by decide +kernel
theorem dX6_fill_157 : decode cX6_fill 157 = .ok (.aload_n 0, 1) := by decide +kernel
theorem dX6_fill_158 : decode cX6_fill 158 = .ok (.getfield 34, 3) := by decide +kernel
theorem dX6_fill_161 : decode cX6_fill 161 = .ok (.bipush 21, 2) := by decide +kernel
theorem dX6_fill_163 : decode cX6_fill 163 = .ok (.iload 5, 2) := by decide +kernel
theorem dX6_fill_165 : decode cX6_fill 165 = .ok (.imul, 1) := by decide +kernel
theorem dX6_fill_166 : decode cX6_fill 166 = .ok (.iload 6, 2) := by decide +kernel
theorem dX6_fill_168 : decode cX6_fill 168 = .ok (.iadd, 1) := by decide +kernel
theorem dX6_fill_169 : decode cX6_fill 169 = .ok (.iload 7, 2) := by decide +kernel
theorem dX6_fill_171 : decode cX6_fill 171 = .ok (.iastore, 1) := by decide +kernel
theorem dX6_fill_172 : decode cX6_fill 172 = .ok (.iinc 6 (-1), 3) := by decide +kernel
theorem dX6_fill_175 : decode cX6_fill 175 = .ok (.goto (-148), 3) := by decide +kernel
theorem dX6_fill_178 : decode cX6_fill 178 = .ok (.iinc 5 (-1), 3) := by decide +kernel
theorem dX6_fill_181 : decode cX6_fill 181 = .ok (.goto (-163), 3) := by decide +kernel
theorem dX6_fill_184 : decode cX6_fill 184 = .ok (.return_, 1) := by decide +kernel
theorem dX6_deletes_0 : decode cX6_deletes 0 = .ok (.iload_n 2, 1) := by decide +kernel
theorem dX6_deletes_1 : decode cX6_deletes 1 = .ok (.aload_n 0, 1) := by decide +kernel
theorem dX6_deletes_2 : decode cX6_deletes 2 = .ok (.getfield 7, 3) := by decide +kernel
theorem dX6_deletes_5 : decode cX6_deletes 5 = .ok (.iload_n 1, 1) := by decide +kernel
theorem dX6_deletes_6 : decode cX6_deletes 6 = .ok (.iaload, 1) := by decide +kernel
theorem dX6_deletes_7 : decode cX6_deletes 7 = .ok (.if_icmp .ge 34, 3) := by decide +kernel
theorem dX6_deletes_10 : decode cX6_deletes 10 = .ok (.aload_n 0, 1) := by decide +kernel
theorem dX6_deletes_11 : decode cX6_deletes 11 = .ok (.getfield 34, 3) := by decide +kernel
theorem dX6_deletes_14 : decode cX6_deletes 14 = .ok (.bipush 21, 2) := by decide +kernel
theorem dX6_deletes_16 : decode cX6_deletes 16 = .ok (.iload_n 2, 1) := by decide +kernel
theorem dX6_deletes_17 : decode cX6_deletes 17 = .ok (.iconst 1, 1) := by decide +kernel
theorem dX6_deletes_18 : decode cX6_deletes 18 = .ok (.iadd, 1) := by decide +kernel
theorem dX6_deletes_19 : decode cX6_deletes 19 = .ok (.imul, 1) := by decide +kernel
theorem dX6_deletes_20 : decode cX6_deletes 20 = .ok (.iload_n 3, 1) := by decide +kernel
theorem dX6_deletes_21 : decode cX6_deletes 21 = .ok (.iadd, 1) := by decide +kernel
theorem dX6_deletes_22 : decode cX6_deletes 22 = .ok (.iaload, 1) := by decide +kernel
theorem dX6_deletes_23 : decode cX6_deletes 23 = .ok (.aload_n 0, 1) := by decide +kernel
theorem dX6_deletes_24 : decode cX6_deletes 24 = .ok (.getfield 34, 3) := by decide +kernel
theorem dX6_deletes_27 : decode cX6_deletes 27 = .ok (.bipush 21, 2) := by decide +kernel
theorem dX6_deletes_29 : decode cX6_deletes 29 = .ok (.iload_n 2, 1) := by decide +kernel
theorem dX6_deletes_30 : decode cX6_deletes 30 = .ok (.imul, 1) := by decide +kernel
theorem dX6_deletes_31 : decode cX6_deletes 31 = .ok (.iload_n 3, 1) := by decide +kernel
theorem dX6_deletes_32 : decode cX6_deletes 32 = .ok (.iadd, 1) := by decide +kernel
theorem dX6_deletes_33 : decode cX6_deletes 33 = .ok (.iaload, 1) := by decide +kernel
theorem dX6_deletes_34 : decode cX6_deletes 34 = .ok (.if_icmp .ge 7, 3) := by decide +kernel
theorem dX6_deletes_37 : decode cX6_deletes 37 = .ok (.iconst 1, 1) := by decide +kernel
theorem dX6_deletes_38 : decode cX6_deletes 38 = .ok (.goto 4, 3) := by decide +kernel
theorem dX6_deletes_41 : decode cX6_deletes 41 = .ok (.iconst 0, 1) := by decide +kernel
theorem dX6_deletes_42 : decode cX6_deletes 42 = .ok (.ireturn, 1) := by decide +kernel
set_option maxRecDepth 20000 in
theorem ggX6_diff_X6_isRow : GoodIn wsX6_diff wsX6_isRow := goodIn_r _ [17] (by decide +kernel) (by decide +kernel)
set_option maxRecDepth 20000 in
theorem gX6_diff_X6_isRow : GoodIn wsX6_diff (va_wsS RX6 53 yX6_isRow wsX6_isRow) := goodIn_app (goodIn_of _ (by decide +kernel)) ggX6_diff_X6_isRow
set_option maxRecDepth 20000 in
theorem ggX6_diff_X6_fill : GoodIn wsX6_diff wsX6_fill := goodIn_r _ [21, 5, 1, 22, 23, 24, 16, 25, 6, 35, 36, 37, 38, 39, 40, 41, 42, 43, 44, 45, 46, 47, 48, 49, 50, 51, 52, 53] (by decide +kernel) (by decide +kernel)
set_option maxRecDepth 20000 in
theorem gX6_diff_X6_fill : GoodIn wsX6_diff (wsV RX6 61 RX6 yX6_fill wsX6_fill) := goodIn_app (goodIn_of _ (by decide +kernel)) ggX6_diff_X6_fill
set_option maxRecDepth 20000 in
theorem ggX6_diff_X6_same : GoodIn wsX6_diff wsX6_same := goodIn_r _ [25, 6, 35, 36, 37, 38, 39, 40, 41, 42, 43, 44, 45, 46, 47, 48, 49, 50, 51, 52, 53] (by decide +kernel) (by decide +kernel)
set_option maxRecDepth 20000 in
theorem gX6_diff_X6_same : GoodIn wsX6_diff (wsV RX6 57 RX6 yX6_same wsX6_same) := goodIn_app (goodIn_of _ (by decide +kernel)) ggX6_diff_X6_same
set_option maxRecDepth 20000 in
theorem ggX6_diff_X6_deletes : GoodIn wsX6_diff wsX6_deletes := goodIn_r _ [29, 5, 1, 35, 36, 37, 38, 39, 40, 41, 42, 43, 44, 45, 46, 47, 48, 49, 50, 51, 52, 53] (by decide +kernel) (by decide +kernel)
set_option maxRecDepth 20000 in
theorem gX6_diff_X6_deletes : GoodIn wsX6_diff (wsV RX6 68 RX6 yX6_deletes wsX6_deletes) := goodIn_app (goodIn_of _ (by decide +kernel)) ggX6_diff_X6_deletes
set_option maxRecDepth 20000 in
theorem ggX6_diff_X6_put : GoodIn wsX6_diff wsX6_put := goodIn_r _ [33, 11, 4, 13, 34, 35, 36, 37, 38, 39, 40, 41, 42, 43, 44, 45, 46, 47, 48, 49, 50, 51, 52, 53] (by decide +kernel) (by decide +kernel)
set_option maxRecDepth 20000 in
theorem gX6_diff_X6_put : GoodIn wsX6_diff (wsV RX6 72 RX6 yX6_put wsX6_put) := goodIn_app (goodIn_of _ (by decide +kernel)) ggX6_diff_X6_put
theorem dX6_diff_0 : decode cX6_diff 0 = .ok (.iload_n 1, 1) := by decide +kernel
theorem dX6_diff_1 : decode cX6_diff 1 = .ok (.invokestatic 53, 3) := by decide +kernel
theorem dX6_diff_4 : decode cX6_diff 4 = .ok (.ifCond .eq 14, 3) := by decide +kernel
theorem dX6_diff_7 : decode cX6_diff 7 = .ok (.iload_n 2, 1) := by decide +kernel
theorem dX6_diff_8 : decode cX6_diff 8 = .ok (.invokestatic 53, 3) := by decide +kernel
theorem dX6_diff_11 : decode cX6_diff 11 = .ok (.ifCond .eq 7, 3) := by decide +kernel
theorem dX6_diff_14 : decode cX6_diff 14 = .ok (.iconst 1, 1) := by decide +kernel
theorem dX6_diff_15 : decode cX6_diff 15 = .ok (.goto 4, 3) := by decide +kernel
theorem dX6_diff_18 : decode cX6_diff 18 = .ok (.iconst 0, 1) := by decide +kernel
theorem dX6_diff_19 : decode cX6_diff 19 = .ok (.istore_n 3, 1) := by decide +kernel
theorem dX6_diff_20 : decode cX6_diff 20 = .ok (.iload_n 3, 1) := by decide +kernel
theorem dX6_diff_21 : decode cX6_diff 21 = .ok (.ifCond .eq 9, 3) := by decide +kernel
theorem dX6_diff_24 : decode cX6_diff 24 = .ok (.aload_n 0, 1) := by decide +kernel
theorem dX6_diff_25 : decode cX6_diff 25 = .ok (.iload_n 1, 1) := by decide +kernel
theorem dX6_diff_26 : decode cX6_diff 26 = .ok (.iload_n 2, 1) := by decide +kernel
theorem dX6_diff_27 : decode cX6_diff 27 = .ok (.invokevirtual 61, 3) := by decide +kernel
theorem dX6_diff_30 : decode cX6_diff 30 = .ok (.aload_n 0, 1) := by decide +kernel
theorem dX6_diff_31 : decode cX6_diff 31 = .ok (.iload_n 3, 1) := by decide +kernel
theorem dX6_diff_32 : decode cX6_diff 32 = .ok (.ifCond .ne 7, 3) := by decide +kernel
theorem dX6_diff_35 : decode cX6_diff 35 = .ok (.iconst 1, 1) := by decide +kernel
theorem dX6_diff_36 : decode cX6_diff 36 = .ok (.goto 21, 3) := by decide +kernel
theorem dX6_diff_39 : decode cX6_diff 39 = .ok (.aload_n 0, 1) := by decide +kernel
theorem dX6_diff_40 : decode cX6_diff 40 = .ok (.getfield 34, 3) := by decide +kernel
theorem dX6_diff_43 : decode cX6_diff 43 = .ok (.iconst 0, 1) := by decide +kernel
theorem dX6_diff_44 : decode cX6_diff 44 = .ok (.iaload, 1) := by decide +kernel
theorem dX6_diff_45 : decode cX6_diff 45 = .ok (.aload_n 0, 1) := by decide +kernel
theorem dX6_diff_46 : decode cX6_diff 46 = .ok (.getfield 46, 3) := by decide +kernel
theorem dX6_diff_49 : decode cX6_diff 49 = .ok (.if_icmp .le 7, 3) := by decide +kernel
theorem dX6_diff_52 : decode cX6_diff 52 = .ok (.iconst 2, 1) := by decide +kernel
theorem dX6_diff_53 : decode cX6_diff 53 = .ok (.goto 4, 3) := by decide +kernel
theorem dX6_diff_56 : decode cX6_diff 56 = .ok (.iconst 0, 1) := by decide +kernel
theorem dX6_diff_57 : decode cX6_diff 57 = .ok (.putfield 50, 3) := by decide +kernel
theorem dX6_diff_60 : decode cX6_diff 60 = .ok (.aload_n 0, 1) := by decide +kernel
theorem dX6_diff_61 : decode cX6_diff 61 = .ok (.getfield 50, 3) := by decide +kernel
theorem dX6_diff_64 : decode cX6_diff 64 = .ok (.ifCond .le 5, 3) := by decide +kernel
theorem dX6_diff_67 : decode cX6_diff 67 = .ok (.iconst 0, 1) := by decide +kernel
theorem dX6_diff_68 : decode cX6_diff 68 = .ok (.ireturn, 1) := by decide +kernel
theorem dX6_diff_69 : decode cX6_diff 69 = .ok (.aload_n 0, 1) := by decide +kernel
theorem dX6_diff_70 : decode cX6_diff 70 = .ok (.iconst 0, 1) := by decide +kernel
theorem dX6_diff_71 : decode cX6_diff 71 = .ok (.putfield 65, 3) := by decide +kernel
theorem dX6_diff_74 : decode cX6_diff 74 = .ok (.iconst 0, 1) := by decide +kernel
theorem dX6_diff_75 : decode cX6_diff 75 = .ok (.istore 4, 2) := by decide +kernel
theorem dX6_diff_77 : decode cX6_diff 77 = .ok (.iconst 0, 1) := by decide +kernel
theorem dX6_diff_78 : decode cX6_diff 78 = .ok (.istore 5, 2) := by decide +kernel
theorem dX6_diff_80 : decode cX6_diff 80 = .ok (.iload 4, 2) := by decide +kernel
theorem dX6_diff_82 : decode cX6_diff 82 = .ok (.aload_n 0, 1) := by decide +kernel
theorem dX6_diff_83 : decode cX6_diff 83 = .ok (.getfield 7, 3) := by decide +kernel
theorem dX6_diff_86 : decode cX6_diff 86 = .ok (.iload_n 1, 1) := by decide +kernel
theorem dX6_diff_87 : decode cX6_diff 87 = .ok (.iaload, 1) := by decide +kernel
theorem dX6_diff_88 : decode cX6_diff 88 = .ok (.if_icmp .lt 14, 3) := by decide +kernel
theorem dX6_diff_91 : decode cX6_diff 91 = .ok (.iload 5, 2) := by decide +kernel
theorem dX6_diff_93 : decode cX6_diff 93 = .ok (.aload_n 0, 1) := by decide +kernel
theorem dX6_diff_94 : decode cX6_diff 94 = .ok (.getfield 7, 3) := by decide +kernel
theorem dX6_diff_97 : decode cX6_diff 97 = .ok (.iload_n 2, 1) := by decide +kernel
theorem dX6_diff_98 : decode cX6_diff 98 = .ok (.iaload, 1) := by decide +kernel
theorem dX6_diff_99 : decode cX6_diff 99 = .ok (.if_icmp .ge 109, 3) := by decide +kernel
theorem dX6_diff_102 : decode cX6_diff 102 = .ok (.iload 4, 2) := by decide +kernel
theorem dX6_diff_104 : decode cX6_diff 104 = .ok (.aload_n 0, 1) := by decide +kernel
theorem dX6_diff_105 : decode cX6_diff 105 = .ok (.getfield 7, 3) := by decide +kernel
theorem dX6_diff_108 : decode cX6_diff 108 = .ok (.iload_n 1, 1) := by decide +kernel
theorem dX6_diff_109 : decode cX6_diff 109 = .ok (.iaload, 1) := by decide +kernel
theorem dX6_diff_110 : decode cX6_diff 110 = .ok (.if_icmp .ge 36, 3) := by decide +kernel
theorem dX6_diff_113 : decode cX6_diff 113 = .ok (.iload 5, 2) := by decide +kernel
theorem dX6_diff_115 : decode cX6_diff 115 = .ok (.aload_n 0, 1) := by decide +kernel
theorem dX6_diff_116 : decode cX6_diff 116 = .ok (.getfield 7, 3) := by decide +kernel
theorem dX6_diff_119 : decode cX6_diff 119 = .ok (.iload_n 2, 1) := by decide +kernel
theorem dX6_diff_120 : decode cX6_diff 120 = .ok (.iaload, 1) := by decide +kernel
theorem dX6_diff_121 : decode cX6_diff 121 = .ok (.if_icmp .ge 25, 3) := by decide +kernel
theorem dX6_diff_124 : decode cX6_diff 124 = .ok (.aload_n 0, 1) := by decide +kernel
theorem dX6_diff_125 : decode cX6_diff 125 = .ok (.iload_n 1, 1) := by decide +kernel
theorem dX6_diff_126 : decode cX6_diff 126 = .ok (.iload 4, 2) := by decide +kernel
theorem dX6_diff_128 : decode cX6_diff 128 = .ok (.iload_n 2, 1) := by decide +kernel
theorem dX6_diff_129 : decode cX6_diff 129 = .ok (.iload 5, 2) := by decide +kernel
theorem dX6_diff_131 : decode cX6_diff 131 = .ok (.invokevirtual 57, 3) := by decide +kernel
theorem dX6_diff_134 : decode cX6_diff 134 = .ok (.ifCond .eq 12, 3) := by decide +kernel
theorem dX6_diff_137 : decode cX6_diff 137 = .ok (.iinc 4 1, 3) := by decide +kernel
theorem dX6_diff_140 : decode cX6_diff 140 = .ok (.iinc 5 1, 3) := by decide +kernel
theorem dX6_diff_143 : decode cX6_diff 143 = .ok (.goto (-63), 3) := by decide +kernel
theorem dX6_diff_146 : decode cX6_diff 146 = .ok (.aload_n 0, 1) := by decide +kernel
theorem dX6_diff_147 : decode cX6_diff 147 = .ok (.iload_n 1, 1) := by decide +kernel
theorem dX6_diff_148 : decode cX6_diff 148 = .ok (.iload 4, 2) := by decide +kernel
theorem dX6_diff_150 : decode cX6_diff 150 = .ok (.iload 5, 2) := by decide +kernel
theorem dX6_diff_152 : decode cX6_diff 152 = .ok (.invokevirtual 68, 3) := by decide +kernel
theorem dX6_diff_155 : decode cX6_diff 155 = .ok (.ifCond .eq 28, 3) := by decide +kernel
theorem dX6_diff_158 : decode cX6_diff 158 = .ok (.aload_n 0, 1) := by decide +kernel
theorem dX6_diff_159 : decode cX6_diff 159 = .ok (.iconst 0, 1) := by decide +kernel
theorem dX6_diff_160 : decode cX6_diff 160 = .ok (.iload 4, 2) := by decide +kernel
theorem dX6_diff_162 : decode cX6_diff 162 = .ok (.aload_n 0, 1) := by decide +kernel
theorem dX6_diff_163 : decode cX6_diff 163 = .ok (.getfield 13, 3) := by decide +kernel
theorem dX6_diff_166 : decode cX6_diff 166 = .ok (.bipush 20, 2) := by decide +kernel
theorem dX6_diff_168 : decode cX6_diff 168 = .ok (.iload_n 1, 1) := by decide +kernel
theorem dX6_diff_169 : decode cX6_diff 169 = .ok (.imul, 1) := by decide +kernel
theorem dX6_diff_170 : decode cX6_diff 170 = .ok (.iload 4, 2) := by decide +kernel
theorem dX6_diff_172 : decode cX6_diff 172 = .ok (.iadd, 1) := by decide +kernel
theorem dX6_diff_173 : decode cX6_diff 173 = .ok (.iaload, 1) := by decide +kernel
theorem dX6_diff_174 : decode cX6_diff 174 = .ok (.invokevirtual 72, 3) := by decide +kernel
theorem dX6_diff_177 : decode cX6_diff 177 = .ok (.iinc 4 1, 3) := by decide +kernel
theorem dX6_diff_180 : decode cX6_diff 180 = .ok (.goto (-100), 3) := by decide +kernel
theorem dX6_diff_183 : decode cX6_diff 183 = .ok (.aload_n 0, 1) := by decide +kernel
theorem dX6_diff_184 : decode cX6_diff 184 = .ok (.iconst 1, 1) := by decide +kernel
theorem dX6_diff_185 : decode cX6_diff 185 = .ok (.iload 4, 2) := by decide +kernel
theorem dX6_diff_187 : decode cX6_diff 187 = .ok (.aload_n 0, 1) := by decide +kernel
theorem dX6_diff_188 : decode cX6_diff 188 = .ok (.getfield 13, 3) := by decide +kernel
theorem dX6_diff_191 : decode cX6_diff 191 = .ok (.bipush 20, 2) := by decide +kernel
theorem dX6_diff_193 : decode cX6_diff 193 = .ok (.iload_n 2, 1) := by decide +kernel
theorem dX6_diff_194 : decode cX6_diff 194 = .ok (.imul, 1) := by decide +kernel
theorem dX6_diff_195 : decode cX6_diff 195 = .ok (.iload 5, 2) := by decide +kernel
theorem dX6_diff_197 : decode cX6_diff 197 = .ok (.iadd, 1) := by decide +kernel
theorem dX6_diff_198 : decode cX6_diff 198 = .ok (.iaload, 1) := by decide +kernel
theorem dX6_diff_199 : decode cX6_diff 199 = .ok (.invokevirtual 72, 3) := by decide +kernel
theorem dX6_diff_202 : decode cX6_diff 202 = .ok (.iinc 5 1, 3) := by decide +kernel
theorem dX6_diff_205 : decode cX6_diff 205 = .ok (.goto (-125), 3) := by decide +kernel
theorem dX6_diff_208 : decode cX6_diff 208 = .ok (.aload_n 0, 1) := by decide +kernel
theorem dX6_diff_209 : decode cX6_diff 209 = .ok (.iconst 1, 1) := by decide +kernel
theorem dX6_diff_210 : decode cX6_diff 210 = .ok (.putfield 76, 3) := by decide +kernel
theorem dX6_diff_213 : decode cX6_diff 213 = .ok (.aload_n 0, 1) := by decide +kernel
theorem dX6_diff_214 : decode cX6_diff 214 = .ok (.aload_n 0, 1) := by decide +kernel
theorem dX6_diff_215 : decode cX6_diff 215 = .ok (.getfield 65, 3) := by decide +kernel
theorem dX6_diff_218 : decode cX6_diff 218 = .ok (.putfield 80, 3) := by decide +kernel
theorem dX6_diff_221 : decode cX6_diff 221 = .ok (.aload_n 0, 1) := by decide +kernel
theorem dX6_diff_222 : decode cX6_diff 222 = .ok (.aload_n 0, 1) := by decide +kernel
theorem dX6_diff_223 : decode cX6_diff 223 = .ok (.getfield 7, 3) := by decide +kernel
theorem dX6_diff_226 : decode cX6_diff 226 = .ok (.iload_n 1, 1) := by decide +kernel
theorem dX6_diff_227 : decode cX6_diff 227 = .ok (.iaload, 1) := by decide +kernel
theorem dX6_diff_228 : decode cX6_diff 228 = .ok (.putfield 83, 3) := by decide +kernel
theorem dX6_diff_231 : decode cX6_diff 231 = .ok (.iconst 0, 1) := by decide +kernel
theorem dX6_diff_232 : decode cX6_diff 232 = .ok (.istore 6, 2) := by decide +kernel
theorem dX6_diff_234 : decode cX6_diff 234 = .ok (.iload 6, 2) := by decide +kernel
theorem dX6_diff_236 : decode cX6_diff 236 = .ok (.aload_n 0, 1) := by decide +kernel
theorem dX6_diff_237 : decode cX6_diff 237 = .ok (.getfield 80, 3) := by decide +kernel
theorem dX6_diff_240 : decode cX6_diff 240 = .ok (.if_icmp .ge 37, 3) := by decide +kernel
theorem dX6_diff_243 : decode cX6_diff 243 = .ok (.aload_n 0, 1) := by decide +kernel
theorem dX6_diff_244 : decode cX6_diff 244 = .ok (.getfield 25, 3) := by decide +kernel
theorem dX6_diff_247 : decode cX6_diff 247 = .ok (.iload 6, 2) := by decide +kernel
theorem dX6_diff_249 : decode cX6_diff 249 = .ok (.aload_n 0, 1) := by decide +kernel
theorem dX6_diff_250 : decode cX6_diff 250 = .ok (.getfield 16, 3) := by decide +kernel
theorem dX6_diff_253 : decode cX6_diff 253 = .ok (.iload 6, 2) := by decide +kernel
theorem dX6_diff_255 : decode cX6_diff 255 = .ok (.iaload, 1) := by decide +kernel
theorem dX6_diff_256 : decode cX6_diff 256 = .ok (.iastore, 1) := by decide +kernel
theorem dX6_diff_257 : decode cX6_diff 257 = .ok (.aload_n 0, 1) := by decide +kernel
theorem dX6_diff_258 : decode cX6_diff 258 = .ok (.getfield 28, 3) := by decide +kernel
theorem dX6_diff_261 : decode cX6_diff 261 = .ok (.iload 6, 2) := by decide +kernel
theorem dX6_diff_263 : decode cX6_diff 263 = .ok (.aload_n 0, 1) := by decide +kernel
theorem dX6_diff_264 : decode cX6_diff 264 = .ok (.getfield 19, 3) := by decide +kernel
theorem dX6_diff_267 : decode cX6_diff 267 = .ok (.iload 6, 2) := by decide +kernel
theorem dX6_diff_269 : decode cX6_diff 269 = .ok (.iaload, 1) := by decide +kernel
theorem dX6_diff_270 : decode cX6_diff 270 = .ok (.iastore, 1) := by decide +kernel
theorem dX6_diff_271 : decode cX6_diff 271 = .ok (.iinc 6 1, 3) := by decide +kernel
theorem dX6_diff_274 : decode cX6_diff 274 = .ok (.goto (-40), 3) := by decide +kernel
theorem dX6_diff_277 : decode cX6_diff 277 = .ok (.aload_n 0, 1) := by decide +kernel
theorem dX6_diff_278 : decode cX6_diff 278 = .ok (.getfield 65, 3) := by decide +kernel
theorem dX6_diff_281 : decode cX6_diff 281 = .ok (.ireturn, 1) := by decide +kernel
theorem dX6_put_0 : decode cX6_put 0 = .ok (.aload_n 0, 1) := by decide +kernel
theorem dX6_put_1 : decode cX6_put 1 = .ok (.getfield 16, 3) := by decide +kernel
theorem dX6_put_4 : decode cX6_put 4 = .ok (.aload_n 0, 1) := by decide +kernel
theorem dX6_put_5 : decode cX6_put 5 = .ok (.getfield 65, 3) := by decide +kernel
theorem dX6_put_8 : decode cX6_put 8 = .ok (.iload_n 1, 1) := by decide +kernel
theorem dX6_put_9 : decode cX6_put 9 = .ok (.iastore, 1) := by decide +kernel
theorem dX6_put_10 : decode cX6_put 10 = .ok (.aload_n 0, 1) := by decide +kernel
theorem dX6_put_11 : decode cX6_put 11 = .ok (.getfield 19, 3) := by decide +kernel
theorem dX6_put_14 : decode cX6_put 14 = .ok (.aload_n 0, 1) := by decide +kernel
theorem dX6_put_15 : decode cX6_put 15 = .ok (.getfield 65, 3) := by decide +kernel
theorem dX6_put_18 : decode cX6_put 18 = .ok (.iload_n 2, 1) := by decide +kernel
theorem dX6_put_19 : decode cX6_put 19 = .ok (.iastore, 1) := by decide +kernel
theorem dX6_put_20 : decode cX6_put 20 = .ok (.aload_n 0, 1) := by decide +kernel
theorem dX6_put_21 : decode cX6_put 21 = .ok (.getfield 22, 3) := by decide +kernel
theorem dX6_put_24 : decode cX6_put 24 = .ok (.aload_n 0, 1) := by decide +kernel
theorem dX6_put_25 : decode cX6_put 25 = .ok (.getfield 65, 3) := by decide +kernel
theorem dX6_put_28 : decode cX6_put 28 = .ok (.iload_n 3, 1) := by decide +kernel
theorem dX6_put_29 : decode cX6_put 29 = .ok (.iastore, 1) := by decide +kernel
theorem dX6_put_30 : decode cX6_put 30 = .ok (.aload_n 0, 1) := by decide +kernel
theorem dX6_put_31 : decode cX6_put 31 = .ok (.dup, 1) := by decide +kernel
theorem dX6_put_32 : decode cX6_put 32 = .ok (.getfield 65, 3) := by decide +kernel
theorem dX6_put_35 : decode cX6_put 35 = .ok (.iconst 1, 1) := by decide +kernel
theorem dX6_put_36 : decode cX6_put 36 = .ok (.iadd, 1) := by decide +kernel
theorem dX6_put_37 : decode cX6_put 37 = .ok (.putfield 65, 3) := by decide +kernel
theorem dX6_put_40 : decode cX6_put 40 = .ok (.return_, 1) := by decide +kernel
theorem dX6_operation_0 : decode cX6_operation 0 = .ok (.aload_n 0, 1) := by decide +kernel
theorem dX6_operation_1 : decode cX6_operation 1 = .ok (.iconst 0, 1) := by decide +kernel
theorem dX6_operation_2 : decode cX6_operation 2 = .ok (.putfield 50, 3) := by decide +kernel
theorem dX6_operation_5 : decode cX6_operation 5 = .ok (.iload_n 1, 1) := by decide +kernel
theorem dX6_operation_6 : decode cX6_operation 6 = .ok (.ifCond .lt 20, 3) := by decide +kernel
theorem dX6_operation_9 : decode cX6_operation 9 = .ok (.iload_n 1, 1) := by decide +kernel
theorem dX6_operation_10 : decode cX6_operation 10 = .ok (.aload_n 0, 1) := by decide +kernel
theorem dX6_operation_11 : decode cX6_operation 11 = .ok (.getfield 65, 3) := by decide +kernel
theorem dX6_operation_14 : decode cX6_operation 14 = .ok (.if_icmp .ge 12, 3) := by decide +kernel
theorem dX6_operation_17 : decode cX6_operation 17 = .ok (.iload_n 2, 1) := by decide +kernel
theorem dX6_operation_18 : decode cX6_operation 18 = .ok (.ifCond .lt 8, 3) := by decide +kernel
theorem dX6_operation_21 : decode cX6_operation 21 = .ok (.iload_n 2, 1) := by decide +kernel
theorem dX6_operation_22 : decode cX6_operation 22 = .ok (.iconst 2, 1) := by decide +kernel
theorem dX6_operation_23 : decode cX6_operation 23 = .ok (.if_icmp .le 5, 3) := by decide +kernel
theorem dX6_operation_26 : decode cX6_operation 26 = .ok (.iconst (-1), 1) := by decide +kernel
theorem dX6_operation_27 : decode cX6_operation 27 = .ok (.ireturn, 1) := by decide +kernel
theorem dX6_operation_28 : decode cX6_operation 28 = .ok (.iload_n 2, 1) := by decide +kernel
theorem dX6_operation_29 : decode cX6_operation 29 = .ok (.ifCond .ne 12, 3) := by decide +kernel
theorem dX6_operation_32 : decode cX6_operation 32 = .ok (.aload_n 0, 1) := by decide +kernel
theorem dX6_operation_33 : decode cX6_operation 33 = .ok (.getfield 16, 3) := by decide +kernel
theorem dX6_operation_36 : decode cX6_operation 36 = .ok (.iload_n 1, 1) := by decide +kernel
theorem dX6_operation_37 : decode cX6_operation 37 = .ok (.iaload, 1) := by decide +kernel
theorem dX6_operation_38 : decode cX6_operation 38 = .ok (.goto 23, 3) := by decide +kernel
theorem dX6_operation_41 : decode cX6_operation 41 = .ok (.iload_n 2, 1) := by decide +kernel
theorem dX6_operation_42 : decode cX6_operation 42 = .ok (.iconst 1, 1) := by decide +kernel
theorem dX6_operation_43 : decode cX6_operation 43 = .ok (.if_icmp .ne 12, 3) := by decide +kernel
theorem dX6_operation_46 : decode cX6_operation 46 = .ok (.aload_n 0, 1) := by decide +kernel
theorem dX6_operation_47 : decode cX6_operation 47 = .ok (.getfield 19, 3) := by decide +kernel
theorem dX6_operation_50 : decode cX6_operation 50 = .ok (.iload_n 1, 1) := by decide +kernel
theorem dX6_operation_51 : decode cX6_operation 51 = .ok (.iaload, 1) := by decide +kernel
theorem dX6_operation_52 : decode cX6_operation 52 = .ok (.goto 9, 3) := by decide +kernel
theorem dX6_operation_55 : decode cX6_operation 55 = .ok (.aload_n 0, 1) := by decide +kernel
theorem dX6_operation_56 : decode cX6_operation 56 = .ok (.getfield 22, 3) := by decide +kernel
theorem dX6_operation_59 : decode cX6_operation 59 = .ok (.iload_n 1, 1) := by decide +kernel
theorem dX6_operation_60 : decode cX6_operation 60 = .ok (.iaload, 1) := by decide +kernel
theorem dX6_operation_61 : decode cX6_operation 61 = .ok (.ireturn, 1) := by decide +kernel
theorem dX6_forget_0 : decode cX6_forget 0 = .ok (.aload_n 0, 1) := by decide +kernel
theorem dX6_forget_1 : decode cX6_forget 1 = .ok (.iconst 0, 1) := by decide +kernel
theorem dX6_forget_2 : decode cX6_forget 2 = .ok (.putfield 50, 3) := by decide +kernel
theorem dX6_forget_5 : decode cX6_forget 5 = .ok (.aload_n 0, 1) := by decide +kernel
theorem dX6_forget_6 : decode cX6_forget 6 = .ok (.iconst 0, 1) := by decide +kernel
theorem dX6_forget_7 : decode cX6_forget 7 = .ok (.putfield 65, 3) := by decide +kernel
theorem dX6_forget_10 : decode cX6_forget 10 = .ok (.return_, 1) := by decide +kernel
