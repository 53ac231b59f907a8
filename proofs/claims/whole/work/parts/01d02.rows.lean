set_option maxRecDepth 20000 in
theorem ggX4_isSameAs_X4_symbolAt : GoodIn wsX4_isSameAs wsX4_symbolAt := goodIn_r _ [7, 8, 9, 10, 11, 12, 13, 14, 15, 16, 17, 18, 19, 20] (by decide +kernel) (by decide +kernel)
set_option maxRecDepth 20000 in
theorem gX4_isSameAs_X4_symbolAt : GoodIn wsX4_isSameAs (wsV RX4 34 RX4 yX4_symbolAt wsX4_symbolAt) := goodIn_app (goodIn_of _ (by decide +kernel)) ggX4_isSameAs_X4_symbolAt
theorem dX4_isSameAs_0 : decode cX4_isSameAs 0 = .ok (.aload_n 0, 1) := by decide +kernel
theorem dX4_isSameAs_1 : decode cX4_isSameAs 1 = .ok (.getfield 24, 3) := by decide +kernel
theorem dX4_isSameAs_4 : decode cX4_isSameAs 4 = .ok (.aload_n 0, 1) := by decide +kernel
theorem dX4_isSameAs_5 : decode cX4_isSameAs 5 = .ok (.getfield 20, 3) := by decide +kernel
theorem dX4_isSameAs_8 : decode cX4_isSameAs 8 = .ok (.isub, 1) := by decide +kernel
theorem dX4_isSameAs_9 : decode cX4_isSameAs 9 = .ok (.aload_n 1, 1) := by decide +kernel
theorem dX4_isSameAs_10 : decode cX4_isSameAs 10 = .ok (.getfield 24, 3) := by decide +kernel
theorem dX4_isSameAs_13 : decode cX4_isSameAs 13 = .ok (.aload_n 1, 1) := by decide +kernel
theorem dX4_isSameAs_14 : decode cX4_isSameAs 14 = .ok (.getfield 20, 3) := by decide +kernel
theorem dX4_isSameAs_17 : decode cX4_isSameAs 17 = .ok (.isub, 1) := by decide +kernel
theorem dX4_isSameAs_18 : decode cX4_isSameAs 18 = .ok (.if_icmp .eq 5, 3) := by decide +kernel
theorem dX4_isSameAs_21 : decode cX4_isSameAs 21 = .ok (.iconst 0, 1) := by decide +kernel
theorem dX4_isSameAs_22 : decode cX4_isSameAs 22 = .ok (.ireturn, 1) := by decide +kernel
theorem dX4_isSameAs_23 : decode cX4_isSameAs 23 = .ok (.iconst 0, 1) := by decide +kernel
theorem dX4_isSameAs_24 : decode cX4_isSameAs 24 = .ok (.istore_n 2, 1) := by decide +kernel
theorem dX4_isSameAs_25 : decode cX4_isSameAs 25 = .ok (.iload_n 2, 1) := by decide +kernel
theorem dX4_isSameAs_26 : decode cX4_isSameAs 26 = .ok (.aload_n 0, 1) := by decide +kernel
theorem dX4_isSameAs_27 : decode cX4_isSameAs 27 = .ok (.getfield 24, 3) := by decide +kernel
theorem dX4_isSameAs_30 : decode cX4_isSameAs 30 = .ok (.aload_n 0, 1) := by decide +kernel
theorem dX4_isSameAs_31 : decode cX4_isSameAs 31 = .ok (.getfield 20, 3) := by decide +kernel
theorem dX4_isSameAs_34 : decode cX4_isSameAs 34 = .ok (.isub, 1) := by decide +kernel
theorem dX4_isSameAs_35 : decode cX4_isSameAs 35 = .ok (.if_icmp .ge 34, 3) := by decide +kernel
theorem dX4_isSameAs_38 : decode cX4_isSameAs 38 = .ok (.aload_n 0, 1) := by decide +kernel
theorem dX4_isSameAs_39 : decode cX4_isSameAs 39 = .ok (.aload_n 0, 1) := by decide +kernel
theorem dX4_isSameAs_40 : decode cX4_isSameAs 40 = .ok (.getfield 20, 3) := by decide +kernel
theorem dX4_isSameAs_43 : decode cX4_isSameAs 43 = .ok (.iload_n 2, 1) := by decide +kernel
theorem dX4_isSameAs_44 : decode cX4_isSameAs 44 = .ok (.iadd, 1) := by decide +kernel
theorem dX4_isSameAs_45 : decode cX4_isSameAs 45 = .ok (.invokevirtual 34, 3) := by decide +kernel
theorem dX4_isSameAs_48 : decode cX4_isSameAs 48 = .ok (.aload_n 1, 1) := by decide +kernel
theorem dX4_isSameAs_49 : decode cX4_isSameAs 49 = .ok (.aload_n 1, 1) := by decide +kernel
theorem dX4_isSameAs_50 : decode cX4_isSameAs 50 = .ok (.getfield 20, 3) := by decide +kernel
theorem dX4_isSameAs_53 : decode cX4_isSameAs 53 = .ok (.iload_n 2, 1) := by decide +kernel
theorem dX4_isSameAs_54 : decode cX4_isSameAs 54 = .ok (.iadd, 1) := by decide +kernel
theorem dX4_isSameAs_55 : decode cX4_isSameAs 55 = .ok (.invokevirtual 34, 3) := by decide +kernel
theorem dX4_isSameAs_58 : decode cX4_isSameAs 58 = .ok (.if_icmp .eq 5, 3) := by decide +kernel
theorem dX4_isSameAs_61 : decode cX4_isSameAs 61 = .ok (.iconst 0, 1) := by decide +kernel
theorem dX4_isSameAs_62 : decode cX4_isSameAs 62 = .ok (.ireturn, 1) := by decide +kernel
theorem dX4_isSameAs_63 : decode cX4_isSameAs 63 = .ok (.iinc 2 1, 3) := by decide +kernel
theorem dX4_isSameAs_66 : decode cX4_isSameAs 66 = .ok (.goto (-41), 3) := by decide +kernel
theorem dX4_isSameAs_69 : decode cX4_isSameAs 69 = .ok (.iconst 1, 1) := by decide +kernel
theorem dX4_isSameAs_70 : decode cX4_isSameAs 70 = .ok (.ireturn, 1) := by decide +kernel
set_option maxRecDepth 20000 in
theorem ggX4_addTo_X2_addAll : GoodIn wsX4_addTo wsX2_addAll := goodIn_r _ [8, 9, 10, 11, 7, 12, 13, 14, 15, 16, 17, 18, 22, 23] (by decide +kernel) (by decide +kernel)
set_option maxRecDepth 20000 in
theorem gX4_addTo_X2_addAll : GoodIn wsX4_addTo (wsV RX4 38 RX2 yX2_addAll wsX2_addAll) := goodIn_app (goodIn_of _ (by decide +kernel)) ggX4_addTo_X2_addAll
theorem dX4_addTo_0 : decode cX4_addTo 0 = .ok (.aload_n 1, 1) := by decide +kernel
theorem dX4_addTo_1 : decode cX4_addTo 1 = .ok (.aload_n 0, 1) := by decide +kernel
theorem dX4_addTo_2 : decode cX4_addTo 2 = .ok (.getfield 14, 3) := by decide +kernel
theorem dX4_addTo_5 : decode cX4_addTo 5 = .ok (.aload_n 0, 1) := by decide +kernel
theorem dX4_addTo_6 : decode cX4_addTo 6 = .ok (.getfield 20, 3) := by decide +kernel
theorem dX4_addTo_9 : decode cX4_addTo 9 = .ok (.aload_n 0, 1) := by decide +kernel
theorem dX4_addTo_10 : decode cX4_addTo 10 = .ok (.getfield 24, 3) := by decide +kernel
theorem dX4_addTo_13 : decode cX4_addTo 13 = .ok (.invokevirtual 38, 3) := by decide +kernel
theorem dX4_addTo_16 : decode cX4_addTo 16 = .ok (.return_, 1) := by decide +kernel
set_option maxRecDepth 20000 in
theorem ggX5_init_X2_init : GoodIn wsX5_init wsX2_init := goodIn_r _ [34, 35, 2, 3, 36, 37, 38, 89, 90] (by decide +kernel) (by decide +kernel)
set_option maxRecDepth 20000 in
theorem gX5_init_X2_init : GoodIn wsX5_init (wsX2_init) := ggX5_init_X2_init
set_option maxRecDepth 20000 in
theorem ggX5_init_X3_init : GoodIn wsX5_init wsX3_init := goodIn_r _ [41, 42, 2, 3, 36, 43, 44, 45, 46, 91, 92, 93, 94] (by decide +kernel) (by decide +kernel)
set_option maxRecDepth 20000 in
theorem gX5_init_X3_init : GoodIn wsX5_init (wsX3_init) := ggX5_init_X3_init
set_option maxRecDepth 20000 in
theorem ggX5_init_X0_init : GoodIn wsX5_init wsX0_init := goodIn_r _ [49, 50, 2, 3, 51, 36, 52, 53, 14, 15, 54, 55, 56, 33, 34, 35, 37, 38, 95, 96, 97, 89, 90] (by decide +kernel) (by decide +kernel)
set_option maxRecDepth 20000 in
theorem gX5_init_X0_init : GoodIn wsX5_init (wsX0_init) := ggX5_init_X0_init
set_option maxRecDepth 20000 in
theorem ggX5_init_X1_init : GoodIn wsX5_init wsX1_init := goodIn_r _ [59, 60, 2, 3, 61, 14, 15, 62, 63, 64, 65, 66, 67, 68, 69, 70, 33, 34, 35, 36, 37, 38, 71, 72, 73, 74, 75, 76, 77, 78, 79, 89, 90, 98, 99, 100, 101, 102, 103, 104, 105] (by decide +kernel) (by decide +kernel)
set_option maxRecDepth 20000 in
theorem gX5_init_X1_init : GoodIn wsX5_init (wsX1_init) := ggX5_init_X1_init
theorem dX5_init_0 : decode cX5_init 0 = .ok (.aload_n 0, 1) := by decide +kernel
theorem dX5_init_1 : decode cX5_init 1 = .ok (.invokespecial 3, 3) := by decide +kernel
theorem dX5_init_4 : decode cX5_init 4 = .ok (.aload_n 0, 1) := by decide +kernel
theorem dX5_init_5 : decode cX5_init 5 = .ok (.iconst 0, 1) := by decide +kernel
theorem dX5_init_6 : decode cX5_init 6 = .ok (.bipush 40, 2) := by decide +kernel
theorem dX5_init_8 : decode cX5_init 8 = .ok (.iload_n 1, 1) := by decide +kernel
theorem dX5_init_9 : decode cX5_init 9 = .ok (.invokestatic 9, 3) := by decide +kernel
theorem dX5_init_12 : decode cX5_init 12 = .ok (.invokestatic 15, 3) := by decide +kernel
theorem dX5_init_15 : decode cX5_init 15 = .ok (.putfield 18, 3) := by decide +kernel
theorem dX5_init_18 : decode cX5_init 18 = .ok (.aload_n 0, 1) := by decide +kernel
theorem dX5_init_19 : decode cX5_init 19 = .ok (.iconst 3, 1) := by decide +kernel
theorem dX5_init_20 : decode cX5_init 20 = .ok (.anewarray 22, 3) := by decide +kernel
theorem dX5_init_23 : decode cX5_init 23 = .ok (.putfield 24, 3) := by decide +kernel
theorem dX5_init_26 : decode cX5_init 26 = .ok (.iconst 0, 1) := by decide +kernel
theorem dX5_init_27 : decode cX5_init 27 = .ok (.istore_n 2, 1) := by decide +kernel
theorem dX5_init_28 : decode cX5_init 28 = .ok (.iload_n 2, 1) := by decide +kernel
theorem dX5_init_29 : decode cX5_init 29 = .ok (.iconst 3, 1) := by decide +kernel
theorem dX5_init_30 : decode cX5_init 30 = .ok (.if_icmp .ge 24, 3) := by decide +kernel
theorem dX5_init_33 : decode cX5_init 33 = .ok (.aload_n 0, 1) := by decide +kernel
theorem dX5_init_34 : decode cX5_init 34 = .ok (.getfield 24, 3) := by decide +kernel
theorem dX5_init_37 : decode cX5_init 37 = .ok (.iload_n 2, 1) := by decide +kernel
theorem dX5_init_38 : decode cX5_init 38 = .ok (.new 22, 3) := by decide +kernel
theorem dX5_init_41 : decode cX5_init 41 = .ok (.dup, 1) := by decide +kernel
theorem dX5_init_42 : decode cX5_init 42 = .ok (.bipush 20, 2) := by decide +kernel
theorem dX5_init_44 : decode cX5_init 44 = .ok (.invokespecial 28, 3) := by decide +kernel
theorem dX5_init_47 : decode cX5_init 47 = .ok (.aastore, 1) := by decide +kernel
theorem dX5_init_48 : decode cX5_init 48 = .ok (.iinc 2 1, 3) := by decide +kernel
theorem dX5_init_51 : decode cX5_init 51 = .ok (.goto (-23), 3) := by decide +kernel
theorem dX5_init_54 : decode cX5_init 54 = .ok (.aload_n 0, 1) := by decide +kernel
theorem dX5_init_55 : decode cX5_init 55 = .ok (.new 31, 3) := by decide +kernel
theorem dX5_init_58 : decode cX5_init 58 = .ok (.dup, 1) := by decide +kernel
theorem dX5_init_59 : decode cX5_init 59 = .ok (.invokespecial 33, 3) := by decide +kernel
theorem dX5_init_62 : decode cX5_init 62 = .ok (.putfield 34, 3) := by decide +kernel
theorem dX5_init_65 : decode cX5_init 65 = .ok (.aload_n 0, 1) := by decide +kernel
theorem dX5_init_66 : decode cX5_init 66 = .ok (.new 31, 3) := by decide +kernel
theorem dX5_init_69 : decode cX5_init 69 = .ok (.dup, 1) := by decide +kernel
theorem dX5_init_70 : decode cX5_init 70 = .ok (.invokespecial 33, 3) := by decide +kernel
theorem dX5_init_73 : decode cX5_init 73 = .ok (.putfield 38, 3) := by decide +kernel
theorem dX5_init_76 : decode cX5_init 76 = .ok (.aload_n 0, 1) := by decide +kernel
theorem dX5_init_77 : decode cX5_init 77 = .ok (.iconst 0, 1) := by decide +kernel
theorem dX5_init_78 : decode cX5_init 78 = .ok (.putfield 41, 3) := by decide +kernel
theorem dX5_init_81 : decode cX5_init 81 = .ok (.aload_n 0, 1) := by decide +kernel
theorem dX5_init_82 : decode cX5_init 82 = .ok (.new 44, 3) := by decide +kernel
theorem dX5_init_85 : decode cX5_init 85 = .ok (.dup, 1) := by decide +kernel
theorem dX5_init_86 : decode cX5_init 86 = .ok (.invokespecial 46, 3) := by decide +kernel
theorem dX5_init_89 : decode cX5_init 89 = .ok (.putfield 47, 3) := by decide +kernel
theorem dX5_init_92 : decode cX5_init 92 = .ok (.aload_n 0, 1) := by decide +kernel
theorem dX5_init_93 : decode cX5_init 93 = .ok (.new 51, 3) := by decide +kernel
theorem dX5_init_96 : decode cX5_init 96 = .ok (.dup, 1) := by decide +kernel
theorem dX5_init_97 : decode cX5_init 97 = .ok (.invokespecial 53, 3) := by decide +kernel
theorem dX5_init_100 : decode cX5_init 100 = .ok (.putfield 54, 3) := by decide +kernel
theorem dX5_init_103 : decode cX5_init 103 = .ok (.aload_n 0, 1) := by decide +kernel
theorem dX5_init_104 : decode cX5_init 104 = .ok (.new 22, 3) := by decide +kernel
theorem dX5_init_107 : decode cX5_init 107 = .ok (.dup, 1) := by decide +kernel
theorem dX5_init_108 : decode cX5_init 108 = .ok (.bipush 123, 2) := by decide +kernel
theorem dX5_init_110 : decode cX5_init 110 = .ok (.invokespecial 28, 3) := by decide +kernel
theorem dX5_init_113 : decode cX5_init 113 = .ok (.putfield 58, 3) := by decide +kernel
theorem dX5_init_116 : decode cX5_init 116 = .ok (.aload_n 0, 1) := by decide +kernel
theorem dX5_init_117 : decode cX5_init 117 = .ok (.new 22, 3) := by decide +kernel
theorem dX5_init_120 : decode cX5_init 120 = .ok (.dup, 1) := by decide +kernel
theorem dX5_init_121 : decode cX5_init 121 = .ok (.bipush 123, 2) := by decide +kernel
theorem dX5_init_123 : decode cX5_init 123 = .ok (.invokespecial 28, 3) := by decide +kernel
theorem dX5_init_126 : decode cX5_init 126 = .ok (.putfield 62, 3) := by decide +kernel
theorem dX5_init_129 : decode cX5_init 129 = .ok (.return_, 1) := by decide +kernel
set_option maxRecDepth 20000 in
theorem ggX5_feed_X5_isRow : GoodIn wsX5_feed wsX5_isRow := goodIn_r _ [5] (by decide +kernel) (by decide +kernel)
set_option maxRecDepth 20000 in
theorem gX5_feed_X5_isRow : GoodIn wsX5_feed (va_wsS RX5 65 yX5_isRow wsX5_isRow) := goodIn_app (goodIn_of _ (by decide +kernel)) ggX5_feed_X5_isRow
set_option maxRecDepth 20000 in
theorem ggX5_feed_X5_isSymbol : GoodIn wsX5_feed wsX5_isSymbol := goodIn_r _ [8] (by decide +kernel) (by decide +kernel)
set_option maxRecDepth 20000 in
theorem gX5_feed_X5_isSymbol : GoodIn wsX5_feed (va_wsS RX5 69 yX5_isSymbol wsX5_isSymbol) := goodIn_app (goodIn_of _ (by decide +kernel)) ggX5_feed_X5_isSymbol
set_option maxRecDepth 20000 in
theorem ggX5_feed_X2_add : GoodIn wsX5_feed wsX2_add := goodIn_r _ [13, 14, 15, 25, 26] (by decide +kernel) (by decide +kernel)
set_option maxRecDepth 20000 in
theorem gX5_feed_X2_add : GoodIn wsX5_feed (wsV RX5 72 RX2 yX2_add wsX2_add) := goodIn_app (goodIn_of _ (by decide +kernel)) ggX5_feed_X2_add
theorem dX5_feed_0 : decode cX5_feed 0 = .ok (.iload_n 1, 1) := by decide +kernel
theorem dX5_feed_1 : decode cX5_feed 1 = .ok (.invokestatic 65, 3) := by decide +kernel
theorem dX5_feed_4 : decode cX5_feed 4 = .ok (.ifCond .eq 27, 3) := by decide +kernel
theorem dX5_feed_7 : decode cX5_feed 7 = .ok (.iload_n 2, 1) := by decide +kernel
theorem dX5_feed_8 : decode cX5_feed 8 = .ok (.invokestatic 69, 3) := by decide +kernel
theorem dX5_feed_11 : decode cX5_feed 11 = .ok (.ifCond .eq 20, 3) := by decide +kernel
theorem dX5_feed_14 : decode cX5_feed 14 = .ok (.aload_n 0, 1) := by decide +kernel
theorem dX5_feed_15 : decode cX5_feed 15 = .ok (.getfield 24, 3) := by decide +kernel
theorem dX5_feed_18 : decode cX5_feed 18 = .ok (.iload_n 1, 1) := by decide +kernel
theorem dX5_feed_19 : decode cX5_feed 19 = .ok (.aaload, 1) := by decide +kernel
theorem dX5_feed_20 : decode cX5_feed 20 = .ok (.iload_n 2, 1) := by decide +kernel
theorem dX5_feed_21 : decode cX5_feed 21 = .ok (.invokevirtual 72, 3) := by decide +kernel
theorem dX5_feed_24 : decode cX5_feed 24 = .ok (.ifCond .eq 7, 3) := by decide +kernel
theorem dX5_feed_27 : decode cX5_feed 27 = .ok (.iconst 1, 1) := by decide +kernel
theorem dX5_feed_28 : decode cX5_feed 28 = .ok (.goto 4, 3) := by decide +kernel
theorem dX5_feed_31 : decode cX5_feed 31 = .ok (.iconst 0, 1) := by decide +kernel
theorem dX5_feed_32 : decode cX5_feed 32 = .ok (.ireturn, 1) := by decide +kernel
set_option maxRecDepth 20000 in
theorem ggX5_clear_X5_isRow : GoodIn wsX5_clear wsX5_isRow := goodIn_r _ [5] (by decide +kernel) (by decide +kernel)
set_option maxRecDepth 20000 in
theorem gX5_clear_X5_isRow : GoodIn wsX5_clear (va_wsS RX5 65 yX5_isRow wsX5_isRow) := goodIn_app (goodIn_of _ (by decide +kernel)) ggX5_clear_X5_isRow
set_option maxRecDepth 20000 in
theorem ggX5_clear_X2_empty : GoodIn wsX5_clear wsX2_empty := goodIn_r _ [10, 11, 21, 22] (by decide +kernel) (by decide +kernel)
set_option maxRecDepth 20000 in
theorem gX5_clear_X2_empty : GoodIn wsX5_clear (wsV RX5 75 RX2 yX2_empty wsX2_empty) := goodIn_app (goodIn_of _ (by decide +kernel)) ggX5_clear_X2_empty
theorem dX5_clear_0 : decode cX5_clear 0 = .ok (.iload_n 1, 1) := by decide +kernel
theorem dX5_clear_1 : decode cX5_clear 1 = .ok (.invokestatic 65, 3) := by decide +kernel
theorem dX5_clear_4 : decode cX5_clear 4 = .ok (.ifCond .ne 5, 3) := by decide +kernel
theorem dX5_clear_7 : decode cX5_clear 7 = .ok (.iconst 0, 1) := by decide +kernel
theorem dX5_clear_8 : decode cX5_clear 8 = .ok (.ireturn, 1) := by decide +kernel
theorem dX5_clear_9 : decode cX5_clear 9 = .ok (.aload_n 0, 1) := by decide +kernel
theorem dX5_clear_10 : decode cX5_clear 10 = .ok (.getfield 24, 3) := by decide +kernel
theorem dX5_clear_13 : decode cX5_clear 13 = .ok (.iload_n 1, 1) := by decide +kernel
theorem dX5_clear_14 : decode cX5_clear 14 = .ok (.aaload, 1) := by decide +kernel
theorem dX5_clear_15 : decode cX5_clear 15 = .ok (.invokevirtual 75, 3) := by decide +kernel
theorem dX5_clear_18 : decode cX5_clear 18 = .ok (.iconst 1, 1) := by decide +kernel
theorem dX5_clear_19 : decode cX5_clear 19 = .ok (.ireturn, 1) := by decide +kernel
set_option maxRecDepth 20000 in
theorem ggX5_size_X5_isRow : GoodIn wsX5_size wsX5_isRow := goodIn_r _ [5] (by decide +kernel) (by decide +kernel)
set_option maxRecDepth 20000 in
theorem gX5_size_X5_isRow : GoodIn wsX5_size (va_wsS RX5 65 yX5_isRow wsX5_isRow) := goodIn_app (goodIn_of _ (by decide +kernel)) ggX5_size_X5_isRow
theorem dX5_size_0 : decode cX5_size 0 = .ok (.iload_n 1, 1) := by decide +kernel
theorem dX5_size_1 : decode cX5_size 1 = .ok (.invokestatic 65, 3) := by decide +kernel
theorem dX5_size_4 : decode cX5_size 4 = .ok (.ifCond .eq 15, 3) := by decide +kernel
theorem dX5_size_7 : decode cX5_size 7 = .ok (.aload_n 0, 1) := by decide +kernel
theorem dX5_size_8 : decode cX5_size 8 = .ok (.getfield 24, 3) := by decide +kernel
theorem dX5_size_11 : decode cX5_size 11 = .ok (.iload_n 1, 1) := by decide +kernel
theorem dX5_size_12 : decode cX5_size 12 = .ok (.aaload, 1) := by decide +kernel
theorem dX5_size_13 : decode cX5_size 13 = .ok (.getfield 78, 3) := by decide +kernel
theorem dX5_size_16 : decode cX5_size 16 = .ok (.goto 4, 3) := by decide +kernel
theorem dX5_size_19 : decode cX5_size 19 = .ok (.iconst (-1), 1) := by decide +kernel
theorem dX5_size_20 : decode cX5_size 20 = .ok (.ireturn, 1) := by decide +kernel
set_option maxRecDepth 20000 in
theorem ggX5_symbol_X5_isRow : GoodIn wsX5_symbol wsX5_isRow := goodIn_r _ [5] (by decide +kernel) (by decide +kernel)
set_option maxRecDepth 20000 in
theorem gX5_symbol_X5_isRow : GoodIn wsX5_symbol (va_wsS RX5 65 yX5_isRow wsX5_isRow) := goodIn_app (goodIn_of _ (by decide +kernel)) ggX5_symbol_X5_isRow
set_option maxRecDepth 20000 in
theorem ggX5_symbol_X2_at : GoodIn wsX5_symbol wsX2_at := goodIn_r _ [10, 11, 12, 22, 23] (by decide +kernel) (by decide +kernel)
set_option maxRecDepth 20000 in
theorem gX5_symbol_X2_at : GoodIn wsX5_symbol (wsV RX5 81 RX2 yX2_at wsX2_at) := goodIn_app (goodIn_of _ (by decide +kernel)) ggX5_symbol_X2_at
theorem dX5_symbol_0 : decode cX5_symbol 0 = .ok (.iload_n 1, 1) := by decide +kernel
theorem dX5_symbol_1 : decode cX5_symbol 1 = .ok (.invokestatic 65, 3) := by decide +kernel
theorem dX5_symbol_4 : decode cX5_symbol 4 = .ok (.ifCond .eq 18, 3) := by decide +kernel
theorem dX5_symbol_7 : decode cX5_symbol 7 = .ok (.aload_n 0, 1) := by decide +kernel
theorem dX5_symbol_8 : decode cX5_symbol 8 = .ok (.getfield 24, 3) := by decide +kernel
theorem dX5_symbol_11 : decode cX5_symbol 11 = .ok (.iload_n 1, 1) := by decide +kernel
theorem dX5_symbol_12 : decode cX5_symbol 12 = .ok (.aaload, 1) := by decide +kernel
theorem dX5_symbol_13 : decode cX5_symbol 13 = .ok (.iload_n 2, 1) := by decide +kernel
theorem dX5_symbol_14 : decode cX5_symbol 14 = .ok (.iconst (-1), 1) := by decide +kernel
theorem dX5_symbol_15 : decode cX5_symbol 15 = .ok (.invokevirtual 81, 3) := by decide +kernel
theorem dX5_symbol_18 : decode cX5_symbol 18 = .ok (.i2s, 1) := by decide +kernel
theorem dX5_symbol_19 : decode cX5_symbol 19 = .ok (.goto 4, 3) := by decide +kernel
theorem dX5_symbol_22 : decode cX5_symbol 22 = .ok (.iconst (-1), 1) := by decide +kernel
theorem dX5_symbol_23 : decode cX5_symbol 23 = .ok (.ireturn, 1) := by decide +kernel
set_option maxRecDepth 20000 in
theorem ggX5_diff_X5_isRow : GoodIn wsX5_diff wsX5_isRow := goodIn_r _ [14] (by decide +kernel) (by decide +kernel)
set_option maxRecDepth 20000 in
theorem gX5_diff_X5_isRow : GoodIn wsX5_diff (va_wsS RX5 65 yX5_isRow wsX5_isRow) := goodIn_app (goodIn_of _ (by decide +kernel)) ggX5_diff_X5_isRow
set_option maxRecDepth 20000 in
theorem ggX5_diff_X0_compare : GoodIn wsX5_diff wsX0_compare := goodIn_r _ [19, 20, 21, 22, 23, 24, 25, 18, 26, 27, 28, 29, 30, 31, 32, 33, 34, 82, 83, 84, 76, 77] (by decide +kernel) (by decide +kernel)
set_option maxRecDepth 20000 in
theorem gX5_diff_X0_compare : GoodIn wsX5_diff (wsV RX5 91 RX0 yX0_compare wsX0_compare) := goodIn_app (goodIn_of _ (by decide +kernel)) ggX5_diff_X0_compare
set_option maxRecDepth 20000 in
theorem ggX5_diff_X0_operations : GoodIn wsX5_diff wsX0_operations := goodIn_r _ [38, 22, 82, 83, 84] (by decide +kernel) (by decide +kernel)
set_option maxRecDepth 20000 in
theorem gX5_diff_X0_operations : GoodIn wsX5_diff (wsV RX5 95 RX0 yX0_operations wsX0_operations) := goodIn_app (goodIn_of _ (by decide +kernel)) ggX5_diff_X0_operations
set_option maxRecDepth 20000 in
theorem ggX5_diff_X0_writeTo : GoodIn wsX5_diff wsX0_writeTo := goodIn_r _ [42, 20, 21, 43, 44, 45, 46, 47, 48, 49, 50, 51, 18, 52, 22, 31, 32, 33, 34, 53, 54, 55, 56, 57, 58, 59, 60, 61, 62, 63, 64, 65, 66, 82, 83, 84, 76, 77, 78, 79, 80, 81] (by decide +kernel) (by decide +kernel)
set_option maxRecDepth 20000 in
theorem gX5_diff_X0_writeTo : GoodIn wsX5_diff (wsV RX5 104 RX0 yX0_writeTo wsX0_writeTo) := goodIn_app (goodIn_of _ (by decide +kernel)) ggX5_diff_X0_writeTo
theorem dX5_diff_0 : decode cX5_diff 0 = .ok (.iload_n 1, 1) := by decide +kernel
theorem dX5_diff_1 : decode cX5_diff 1 = .ok (.invokestatic 65, 3) := by decide +kernel
theorem dX5_diff_4 : decode cX5_diff 4 = .ok (.ifCond .eq 10, 3) := by decide +kernel
theorem dX5_diff_7 : decode cX5_diff 7 = .ok (.iload_n 2, 1) := by decide +kernel
theorem dX5_diff_8 : decode cX5_diff 8 = .ok (.invokestatic 65, 3) := by decide +kernel
theorem dX5_diff_11 : decode cX5_diff 11 = .ok (.ifCond .ne 13, 3) := by decide +kernel
theorem dX5_diff_14 : decode cX5_diff 14 = .ok (.new 84, 3) := by decide +kernel
theorem dX5_diff_17 : decode cX5_diff 17 = .ok (.dup, 1) := by decide +kernel
theorem dX5_diff_18 : decode cX5_diff 18 = .ok (.ldc 86, 2) := by decide +kernel
theorem dX5_diff_20 : decode cX5_diff 20 = .ok (.invokespecial 88, 3) := by decide +kernel
theorem dX5_diff_23 : decode cX5_diff 23 = .ok (.athrow, 1) := by decide +kernel
theorem dX5_diff_24 : decode cX5_diff 24 = .ok (.aload_n 0, 1) := by decide +kernel
theorem dX5_diff_25 : decode cX5_diff 25 = .ok (.getfield 47, 3) := by decide +kernel
theorem dX5_diff_28 : decode cX5_diff 28 = .ok (.aload_n 0, 1) := by decide +kernel
theorem dX5_diff_29 : decode cX5_diff 29 = .ok (.getfield 24, 3) := by decide +kernel
theorem dX5_diff_32 : decode cX5_diff 32 = .ok (.iload_n 1, 1) := by decide +kernel
theorem dX5_diff_33 : decode cX5_diff 33 = .ok (.aaload, 1) := by decide +kernel
theorem dX5_diff_34 : decode cX5_diff 34 = .ok (.aload_n 0, 1) := by decide +kernel
theorem dX5_diff_35 : decode cX5_diff 35 = .ok (.getfield 24, 3) := by decide +kernel
theorem dX5_diff_38 : decode cX5_diff 38 = .ok (.iload_n 2, 1) := by decide +kernel
theorem dX5_diff_39 : decode cX5_diff 39 = .ok (.aaload, 1) := by decide +kernel
theorem dX5_diff_40 : decode cX5_diff 40 = .ok (.invokevirtual 91, 3) := by decide +kernel
theorem dX5_diff_43 : decode cX5_diff 43 = .ok (.aload_n 0, 1) := by decide +kernel
theorem dX5_diff_44 : decode cX5_diff 44 = .ok (.getfield 47, 3) := by decide +kernel
theorem dX5_diff_47 : decode cX5_diff 47 = .ok (.invokevirtual 95, 3) := by decide +kernel
theorem dX5_diff_50 : decode cX5_diff 50 = .ok (.aload_n 0, 1) := by decide +kernel
theorem dX5_diff_51 : decode cX5_diff 51 = .ok (.getfield 18, 3) := by decide +kernel
theorem dX5_diff_54 : decode cX5_diff 54 = .ok (.if_icmp .le 13, 3) := by decide +kernel
theorem dX5_diff_57 : decode cX5_diff 57 = .ok (.new 99, 3) := by decide +kernel
theorem dX5_diff_60 : decode cX5_diff 60 = .ok (.dup, 1) := by decide +kernel
theorem dX5_diff_61 : decode cX5_diff 61 = .ok (.ldc 101, 2) := by decide +kernel
theorem dX5_diff_63 : decode cX5_diff 63 = .ok (.invokespecial 103, 3) := by decide +kernel
theorem dX5_diff_66 : decode cX5_diff 66 = .ok (.athrow, 1) := by decide +kernel
theorem dX5_diff_67 : decode cX5_diff 67 = .ok (.aload_n 0, 1) := by decide +kernel
theorem dX5_diff_68 : decode cX5_diff 68 = .ok (.getfield 47, 3) := by decide +kernel
theorem dX5_diff_71 : decode cX5_diff 71 = .ok (.aload_n 0, 1) := by decide +kernel
theorem dX5_diff_72 : decode cX5_diff 72 = .ok (.getfield 34, 3) := by decide +kernel
theorem dX5_diff_75 : decode cX5_diff 75 = .ok (.invokevirtual 104, 3) := by decide +kernel
theorem dX5_diff_78 : decode cX5_diff 78 = .ok (.aload_n 0, 1) := by decide +kernel
theorem dX5_diff_79 : decode cX5_diff 79 = .ok (.getfield 47, 3) := by decide +kernel
theorem dX5_diff_82 : decode cX5_diff 82 = .ok (.aload_n 0, 1) := by decide +kernel
theorem dX5_diff_83 : decode cX5_diff 83 = .ok (.getfield 38, 3) := by decide +kernel
theorem dX5_diff_86 : decode cX5_diff 86 = .ok (.invokevirtual 104, 3) := by decide +kernel
theorem dX5_diff_89 : decode cX5_diff 89 = .ok (.aload_n 0, 1) := by decide +kernel
theorem dX5_diff_90 : decode cX5_diff 90 = .ok (.aload_n 0, 1) := by decide +kernel
theorem dX5_diff_91 : decode cX5_diff 91 = .ok (.getfield 24, 3) := by decide +kernel
theorem dX5_diff_94 : decode cX5_diff 94 = .ok (.iload_n 1, 1) := by decide +kernel
theorem dX5_diff_95 : decode cX5_diff 95 = .ok (.aaload, 1) := by decide +kernel
theorem dX5_diff_96 : decode cX5_diff 96 = .ok (.getfield 78, 3) := by decide +kernel
theorem dX5_diff_99 : decode cX5_diff 99 = .ok (.putfield 41, 3) := by decide +kernel
theorem dX5_diff_102 : decode cX5_diff 102 = .ok (.aload_n 0, 1) := by decide +kernel
theorem dX5_diff_103 : decode cX5_diff 103 = .ok (.getfield 34, 3) := by decide +kernel
theorem dX5_diff_106 : decode cX5_diff 106 = .ok (.getfield 108, 3) := by decide +kernel
theorem dX5_diff_109 : decode cX5_diff 109 = .ok (.ireturn, 1) := by decide +kernel
set_option maxRecDepth 20000 in
theorem ggX5_operation_X3_has : GoodIn wsX5_operation wsX3_has := goodIn_r _ [6, 7, 17, 18, 19, 20] (by decide +kernel) (by decide +kernel)
set_option maxRecDepth 20000 in
theorem gX5_operation_X3_has : GoodIn wsX5_operation (wsV RX5 109 RX3 yX3_has wsX3_has) := goodIn_app (goodIn_of _ (by decide +kernel)) ggX5_operation_X3_has
theorem dX5_operation_0 : decode cX5_operation 0 = .ok (.aload_n 0, 1) := by decide +kernel
theorem dX5_operation_1 : decode cX5_operation 1 = .ok (.getfield 34, 3) := by decide +kernel
theorem dX5_operation_4 : decode cX5_operation 4 = .ok (.iload_n 1, 1) := by decide +kernel
theorem dX5_operation_5 : decode cX5_operation 5 = .ok (.invokevirtual 109, 3) := by decide +kernel
theorem dX5_operation_8 : decode cX5_operation 8 = .ok (.ifCond .ne 5, 3) := by decide +kernel
theorem dX5_operation_11 : decode cX5_operation 11 = .ok (.iconst (-1), 1) := by decide +kernel
theorem dX5_operation_12 : decode cX5_operation 12 = .ok (.ireturn, 1) := by decide +kernel
theorem dX5_operation_13 : decode cX5_operation 13 = .ok (.iload_n 2, 1) := by decide +kernel
theorem dX5_operation_14 : decode cX5_operation 14 = .ok (.tableswitch 56 0 2 #[26, 36, 46], 26) := by decide +kernel
theorem dX5_operation_40 : decode cX5_operation 40 = .ok (.aload_n 0, 1) := by decide +kernel
theorem dX5_operation_41 : decode cX5_operation 41 = .ok (.getfield 34, 3) := by decide +kernel
theorem dX5_operation_44 : decode cX5_operation 44 = .ok (.getfield 112, 3) := by decide +kernel
theorem dX5_operation_47 : decode cX5_operation 47 = .ok (.iload_n 1, 1) := by decide +kernel
theorem dX5_operation_48 : decode cX5_operation 48 = .ok (.iaload, 1) := by decide +kernel
theorem dX5_operation_49 : decode cX5_operation 49 = .ok (.ireturn, 1) := by decide +kernel
theorem dX5_operation_50 : decode cX5_operation 50 = .ok (.aload_n 0, 1) := by decide +kernel
theorem dX5_operation_51 : decode cX5_operation 51 = .ok (.getfield 34, 3) := by decide +kernel
theorem dX5_operation_54 : decode cX5_operation 54 = .ok (.getfield 116, 3) := by decide +kernel
theorem dX5_operation_57 : decode cX5_operation 57 = .ok (.iload_n 1, 1) := by decide +kernel
theorem dX5_operation_58 : decode cX5_operation 58 = .ok (.iaload, 1) := by decide +kernel
theorem dX5_operation_59 : decode cX5_operation 59 = .ok (.ireturn, 1) := by decide +kernel
theorem dX5_operation_60 : decode cX5_operation 60 = .ok (.aload_n 0, 1) := by decide +kernel
theorem dX5_operation_61 : decode cX5_operation 61 = .ok (.getfield 34, 3) := by decide +kernel
theorem dX5_operation_64 : decode cX5_operation 64 = .ok (.getfield 119, 3) := by decide +kernel
theorem dX5_operation_67 : decode cX5_operation 67 = .ok (.iload_n 1, 1) := by decide +kernel
theorem dX5_operation_68 : decode cX5_operation 68 = .ok (.iaload, 1) := by decide +kernel
theorem dX5_operation_69 : decode cX5_operation 69 = .ok (.ireturn, 1) := by decide +kernel
theorem dX5_operation_70 : decode cX5_operation 70 = .ok (.iconst (-1), 1) := by decide +kernel
theorem dX5_operation_71 : decode cX5_operation 71 = .ok (.ireturn, 1) := by decide +kernel
set_option maxRecDepth 20000 in
theorem ggX5_forget_X3_empty : GoodIn wsX5_forget wsX3_empty := goodIn_r _ [6, 7, 17, 18, 19, 20] (by decide +kernel) (by decide +kernel)
set_option maxRecDepth 20000 in
theorem gX5_forget_X3_empty : GoodIn wsX5_forget (wsV RX5 122 RX3 yX3_empty wsX3_empty) := goodIn_app (goodIn_of _ (by decide +kernel)) ggX5_forget_X3_empty
theorem dX5_forget_0 : decode cX5_forget 0 = .ok (.aload_n 0, 1) := by decide +kernel
theorem dX5_forget_1 : decode cX5_forget 1 = .ok (.getfield 34, 3) := by decide +kernel
theorem dX5_forget_4 : decode cX5_forget 4 = .ok (.invokevirtual 122, 3) := by decide +kernel
theorem dX5_forget_7 : decode cX5_forget 7 = .ok (.return_, 1) := by decide +kernel
set_option maxRecDepth 20000 in
theorem ggX5_load_X3_add : GoodIn wsX5_load wsX3_add := goodIn_r _ [6, 7, 8, 9, 10, 20, 21, 22, 23] (by decide +kernel) (by decide +kernel)
set_option maxRecDepth 20000 in
theorem gX5_load_X3_add : GoodIn wsX5_load (wsV RX5 123 RX3 yX3_add wsX3_add) := goodIn_app (goodIn_of _ (by decide +kernel)) ggX5_load_X3_add
theorem dX5_load_0 : decode cX5_load 0 = .ok (.aload_n 0, 1) := by decide +kernel
theorem dX5_load_1 : decode cX5_load 1 = .ok (.getfield 34, 3) := by decide +kernel
theorem dX5_load_4 : decode cX5_load 4 = .ok (.iload_n 1, 1) := by decide +kernel
theorem dX5_load_5 : decode cX5_load 5 = .ok (.iload_n 2, 1) := by decide +kernel
theorem dX5_load_6 : decode cX5_load 6 = .ok (.iload_n 3, 1) := by decide +kernel
theorem dX5_load_7 : decode cX5_load 7 = .ok (.invokevirtual 123, 3) := by decide +kernel
theorem dX5_load_10 : decode cX5_load 10 = .ok (.ireturn, 1) := by decide +kernel
set_option maxRecDepth 20000 in
theorem ggX5_patch_X5_isRow : GoodIn wsX5_patch wsX5_isRow := goodIn_r _ [10] (by decide +kernel) (by decide +kernel)
set_option maxRecDepth 20000 in
theorem gX5_patch_X5_isRow : GoodIn wsX5_patch (va_wsS RX5 65 yX5_isRow wsX5_isRow) := goodIn_app (goodIn_of _ (by decide +kernel)) ggX5_patch_X5_isRow
set_option maxRecDepth 20000 in
theorem ggX5_patch_X2_empty : GoodIn wsX5_patch wsX2_empty := goodIn_r _ [15, 16, 78, 79] (by decide +kernel) (by decide +kernel)
set_option maxRecDepth 20000 in
theorem gX5_patch_X2_empty : GoodIn wsX5_patch (wsV RX5 75 RX2 yX2_empty wsX2_empty) := goodIn_app (goodIn_of _ (by decide +kernel)) ggX5_patch_X2_empty
set_option maxRecDepth 20000 in
theorem ggX5_patch_X5_checkOperation : GoodIn wsX5_patch wsX5_checkOperation := goodIn_ca (goodIn_ca (goodIn_ca (goodIn_r _ [20, 1, 2, 21, 22, 23, 24, 5, 25, 26, 9, 27, 28, 29, 30, 31, 32, 33, 34, 35, 36, 37, 38, 39, 40, 41, 42, 14, 43, 16, 44, 65, 66, 67, 68, 69, 70, 71, 72, 73, 74, 75, 76, 77, 78, 79] (by decide +kernel) (by decide +kernel)) (goodIn_sub (fun _ h => List.mem_cons_of_mem _ (List.mem_append_left _ (List.mem_append_left _ (List.mem_append_left _ (List.mem_append_right _ h))))) (by decide +kernel))) (goodIn_sub (fun _ h => List.mem_cons_of_mem _ (List.mem_append_left _ (List.mem_append_left _ (List.mem_append_right _ h)))) (by decide +kernel))) (goodIn_sub (fun _ h => List.mem_cons_of_mem _ (List.mem_append_left _ (List.mem_append_right _ h))) (by decide +kernel))
set_option maxRecDepth 20000 in
theorem gX5_patch_X5_checkOperation : GoodIn wsX5_patch (wsV RX5 126 RX5 yX5_checkOperation wsX5_checkOperation) := goodIn_app (goodIn_of _ (by decide +kernel)) ggX5_patch_X5_checkOperation
set_option maxRecDepth 20000 in
theorem ggX5_patch_X5_checkRoom : GoodIn wsX5_patch wsX5_checkRoom := goodIn_ca (goodIn_r _ [48, 49, 50, 4, 65, 66, 67, 68, 69, 70, 71, 72, 73, 78, 79] (by decide +kernel) (by decide +kernel)) (goodIn_sub (fun _ h => List.mem_cons_of_mem _ (List.mem_append_right _ h)) (by decide +kernel))
set_option maxRecDepth 20000 in
theorem gX5_patch_X5_checkRoom : GoodIn wsX5_patch (wsV RX5 130 RX5 yX5_checkRoom wsX5_checkRoom) := goodIn_app (goodIn_of _ (by decide +kernel)) ggX5_patch_X5_checkRoom
set_option maxRecDepth 20000 in
theorem ggX5_patch_X2_addAll : GoodIn wsX5_patch wsX2_addAll := goodIn_r _ [54, 55, 41, 42, 14, 43, 16, 44, 56, 57, 58, 59, 78, 79] (by decide +kernel) (by decide +kernel)
set_option maxRecDepth 20000 in
theorem gX5_patch_X2_addAll : GoodIn wsX5_patch (wsV RX5 133 RX2 yX2_addAll wsX2_addAll) := goodIn_app (goodIn_of _ (by decide +kernel)) ggX5_patch_X2_addAll
set_option maxRecDepth 20000 in
theorem ggX5_patch_X3_behind : GoodIn wsX5_patch wsX3_behind := goodIn_r _ [32, 33, 34, 35, 36, 37, 31, 38, 39, 74, 75, 76, 77] (by decide +kernel) (by decide +kernel)
set_option maxRecDepth 20000 in
theorem gX5_patch_X3_behind : GoodIn wsX5_patch (wsV RX5 137 RX3 yX3_behind wsX3_behind) := goodIn_app (goodIn_of _ (by decide +kernel)) ggX5_patch_X3_behind
set_option maxRecDepth 20000 in
theorem ggX5_patch_X2_add : GoodIn wsX5_patch wsX2_add := goodIn_r _ [59, 16, 44, 78, 79] (by decide +kernel) (by decide +kernel)
set_option maxRecDepth 20000 in
theorem gX5_patch_X2_add : GoodIn wsX5_patch (wsV RX5 72 RX2 yX2_add wsX2_add) := goodIn_app (goodIn_of _ (by decide +kernel)) ggX5_patch_X2_add
set_option maxRecDepth 20000 in
theorem ggX5_patch_X5_swapResultAndDraft : GoodIn wsX5_patch wsX5_swapResultAndDraft := goodIn_r _ [64, 6, 4, 65, 66, 67, 68, 69, 70, 71, 72, 73] (by decide +kernel) (by decide +kernel)
set_option maxRecDepth 20000 in
theorem gX5_patch_X5_swapResultAndDraft : GoodIn wsX5_patch (wsV RX5 141 RX5 yX5_swapResultAndDraft wsX5_swapResultAndDraft) := goodIn_app (goodIn_of _ (by decide +kernel)) ggX5_patch_X5_swapResultAndDraft
theorem dX5_patch_0 : decode cX5_patch 0 = .ok (.iload_n 1, 1) := by decide +kernel
theorem dX5_patch_1 : decode cX5_patch 1 = .ok (.invokestatic 65, 3) := by decide +kernel
theorem dX5_patch_4 : decode cX5_patch 4 = .ok (.ifCond .ne 13, 3) := by decide +kernel
theorem dX5_patch_7 : decode cX5_patch 7 = .ok (.new 84, 3) := by decide +kernel
theorem dX5_patch_10 : decode cX5_patch 10 = .ok (.dup, 1) := by decide +kernel
theorem dX5_patch_11 : decode cX5_patch 11 = .ok (.ldc 86, 2) := by decide +kernel
theorem dX5_patch_13 : decode cX5_patch 13 = .ok (.invokespecial 88, 3) := by decide +kernel
theorem dX5_patch_16 : decode cX5_patch 16 = .ok (.athrow, 1) := by decide +kernel
theorem dX5_patch_17 : decode cX5_patch 17 = .ok (.aload_n 0, 1) := by decide +kernel
theorem dX5_patch_18 : decode cX5_patch 18 = .ok (.getfield 24, 3) := by decide +kernel
theorem dX5_patch_21 : decode cX5_patch 21 = .ok (.iload_n 1, 1) := by decide +kernel
theorem dX5_patch_22 : decode cX5_patch 22 = .ok (.aaload, 1) := by decide +kernel
theorem dX5_patch_23 : decode cX5_patch 23 = .ok (.astore_n 2, 1) := by decide +kernel
theorem dX5_patch_24 : decode cX5_patch 24 = .ok (.aload_n 0, 1) := by decide +kernel
theorem dX5_patch_25 : decode cX5_patch 25 = .ok (.getfield 62, 3) := by decide +kernel
theorem dX5_patch_28 : decode cX5_patch 28 = .ok (.invokevirtual 75, 3) := by decide +kernel
theorem dX5_patch_31 : decode cX5_patch 31 = .ok (.iconst 0, 1) := by decide +kernel
theorem dX5_patch_32 : decode cX5_patch 32 = .ok (.istore_n 3, 1) := by decide +kernel
theorem dX5_patch_33 : decode cX5_patch 33 = .ok (.iconst 0, 1) := by decide +kernel
theorem dX5_patch_34 : decode cX5_patch 34 = .ok (.istore 4, 2) := by decide +kernel
theorem dX5_patch_36 : decode cX5_patch 36 = .ok (.iload 4, 2) := by decide +kernel
theorem dX5_patch_38 : decode cX5_patch 38 = .ok (.aload_n 0, 1) := by decide +kernel
theorem dX5_patch_39 : decode cX5_patch 39 = .ok (.getfield 34, 3) := by decide +kernel
theorem dX5_patch_42 : decode cX5_patch 42 = .ok (.getfield 108, 3) := by decide +kernel
theorem dX5_patch_45 : decode cX5_patch 45 = .ok (.if_icmp .ge 112, 3) := by decide +kernel
theorem dX5_patch_48 : decode cX5_patch 48 = .ok (.aload_n 0, 1) := by decide +kernel
theorem dX5_patch_49 : decode cX5_patch 49 = .ok (.aload_n 2, 1) := by decide +kernel
theorem dX5_patch_50 : decode cX5_patch 50 = .ok (.iload 4, 2) := by decide +kernel
theorem dX5_patch_52 : decode cX5_patch 52 = .ok (.invokevirtual 126, 3) := by decide +kernel
theorem dX5_patch_55 : decode cX5_patch 55 = .ok (.aload_n 0, 1) := by decide +kernel
theorem dX5_patch_56 : decode cX5_patch 56 = .ok (.getfield 34, 3) := by decide +kernel
theorem dX5_patch_59 : decode cX5_patch 59 = .ok (.getfield 116, 3) := by decide +kernel
theorem dX5_patch_62 : decode cX5_patch 62 = .ok (.iload 4, 2) := by decide +kernel
theorem dX5_patch_64 : decode cX5_patch 64 = .ok (.iaload, 1) := by decide +kernel
theorem dX5_patch_65 : decode cX5_patch 65 = .ok (.istore 5, 2) := by decide +kernel
theorem dX5_patch_67 : decode cX5_patch 67 = .ok (.aload_n 0, 1) := by decide +kernel
theorem dX5_patch_68 : decode cX5_patch 68 = .ok (.getfield 34, 3) := by decide +kernel
theorem dX5_patch_71 : decode cX5_patch 71 = .ok (.getfield 112, 3) := by decide +kernel
theorem dX5_patch_74 : decode cX5_patch 74 = .ok (.iload 4, 2) := by decide +kernel
theorem dX5_patch_76 : decode cX5_patch 76 = .ok (.iaload, 1) := by decide +kernel
theorem dX5_patch_77 : decode cX5_patch 77 = .ok (.iconst 1, 1) := by decide +kernel
theorem dX5_patch_78 : decode cX5_patch 78 = .ok (.if_icmp .ne 7, 3) := by decide +kernel
theorem dX5_patch_81 : decode cX5_patch 81 = .ok (.iconst 1, 1) := by decide +kernel
theorem dX5_patch_82 : decode cX5_patch 82 = .ok (.goto 4, 3) := by decide +kernel
theorem dX5_patch_85 : decode cX5_patch 85 = .ok (.iconst 0, 1) := by decide +kernel
theorem dX5_patch_86 : decode cX5_patch 86 = .ok (.istore 6, 2) := by decide +kernel
theorem dX5_patch_88 : decode cX5_patch 88 = .ok (.aload_n 0, 1) := by decide +kernel
theorem dX5_patch_89 : decode cX5_patch 89 = .ok (.iload 5, 2) := by decide +kernel
theorem dX5_patch_91 : decode cX5_patch 91 = .ok (.iload_n 3, 1) := by decide +kernel
theorem dX5_patch_92 : decode cX5_patch 92 = .ok (.isub, 1) := by decide +kernel
theorem dX5_patch_93 : decode cX5_patch 93 = .ok (.iload 6, 2) := by decide +kernel
theorem dX5_patch_95 : decode cX5_patch 95 = .ok (.ifCond .eq 7, 3) := by decide +kernel
theorem dX5_patch_98 : decode cX5_patch 98 = .ok (.iconst 1, 1) := by decide +kernel
theorem dX5_patch_99 : decode cX5_patch 99 = .ok (.goto 4, 3) := by decide +kernel
theorem dX5_patch_102 : decode cX5_patch 102 = .ok (.iconst 0, 1) := by decide +kernel
theorem dX5_patch_103 : decode cX5_patch 103 = .ok (.iadd, 1) := by decide +kernel
theorem dX5_patch_104 : decode cX5_patch 104 = .ok (.invokevirtual 130, 3) := by decide +kernel
theorem dX5_patch_107 : decode cX5_patch 107 = .ok (.aload_n 0, 1) := by decide +kernel
theorem dX5_patch_108 : decode cX5_patch 108 = .ok (.getfield 62, 3) := by decide +kernel
theorem dX5_patch_111 : decode cX5_patch 111 = .ok (.aload_n 2, 1) := by decide +kernel
theorem dX5_patch_112 : decode cX5_patch 112 = .ok (.iload_n 3, 1) := by decide +kernel
theorem dX5_patch_113 : decode cX5_patch 113 = .ok (.iload 5, 2) := by decide +kernel
theorem dX5_patch_115 : decode cX5_patch 115 = .ok (.invokevirtual 133, 3) := by decide +kernel
theorem dX5_patch_118 : decode cX5_patch 118 = .ok (.aload_n 0, 1) := by decide +kernel
theorem dX5_patch_119 : decode cX5_patch 119 = .ok (.getfield 34, 3) := by decide +kernel
theorem dX5_patch_122 : decode cX5_patch 122 = .ok (.iload 4, 2) := by decide +kernel
theorem dX5_patch_124 : decode cX5_patch 124 = .ok (.invokevirtual 137, 3) := by decide +kernel
theorem dX5_patch_127 : decode cX5_patch 127 = .ok (.istore_n 3, 1) := by decide +kernel
theorem dX5_patch_128 : decode cX5_patch 128 = .ok (.iload 6, 2) := by decide +kernel
theorem dX5_patch_130 : decode cX5_patch 130 = .ok (.ifCond .eq 21, 3) := by decide +kernel
theorem dX5_patch_133 : decode cX5_patch 133 = .ok (.aload_n 0, 1) := by decide +kernel
theorem dX5_patch_134 : decode cX5_patch 134 = .ok (.getfield 62, 3) := by decide +kernel
theorem dX5_patch_137 : decode cX5_patch 137 = .ok (.aload_n 0, 1) := by decide +kernel
theorem dX5_patch_138 : decode cX5_patch 138 = .ok (.getfield 34, 3) := by decide +kernel
theorem dX5_patch_141 : decode cX5_patch 141 = .ok (.getfield 119, 3) := by decide +kernel
theorem dX5_patch_144 : decode cX5_patch 144 = .ok (.iload 4, 2) := by decide +kernel
theorem dX5_patch_146 : decode cX5_patch 146 = .ok (.iaload, 1) := by decide +kernel
theorem dX5_patch_147 : decode cX5_patch 147 = .ok (.invokevirtual 72, 3) := by decide +kernel
theorem dX5_patch_150 : decode cX5_patch 150 = .ok (.pop, 1) := by decide +kernel
theorem dX5_patch_151 : decode cX5_patch 151 = .ok (.iinc 4 1, 3) := by decide +kernel
theorem dX5_patch_154 : decode cX5_patch 154 = .ok (.goto (-118), 3) := by decide +kernel
theorem dX5_patch_157 : decode cX5_patch 157 = .ok (.aload_n 0, 1) := by decide +kernel
theorem dX5_patch_158 : decode cX5_patch 158 = .ok (.aload_n 2, 1) := by decide +kernel
theorem dX5_patch_159 : decode cX5_patch 159 = .ok (.getfield 78, 3) := by decide +kernel
theorem dX5_patch_162 : decode cX5_patch 162 = .ok (.iload_n 3, 1) := by decide +kernel
theorem dX5_patch_163 : decode cX5_patch 163 = .ok (.isub, 1) := by decide +kernel
theorem dX5_patch_164 : decode cX5_patch 164 = .ok (.invokevirtual 130, 3) := by decide +kernel
theorem dX5_patch_167 : decode cX5_patch 167 = .ok (.aload_n 0, 1) := by decide +kernel
theorem dX5_patch_168 : decode cX5_patch 168 = .ok (.getfield 62, 3) := by decide +kernel
theorem dX5_patch_171 : decode cX5_patch 171 = .ok (.aload_n 2, 1) := by decide +kernel
theorem dX5_patch_172 : decode cX5_patch 172 = .ok (.iload_n 3, 1) := by decide +kernel
theorem dX5_patch_173 : decode cX5_patch 173 = .ok (.aload_n 2, 1) := by decide +kernel
theorem dX5_patch_174 : decode cX5_patch 174 = .ok (.getfield 78, 3) := by decide +kernel
theorem dX5_patch_177 : decode cX5_patch 177 = .ok (.invokevirtual 133, 3) := by decide +kernel
theorem dX5_patch_180 : decode cX5_patch 180 = .ok (.aload_n 0, 1) := by decide +kernel
theorem dX5_patch_181 : decode cX5_patch 181 = .ok (.invokevirtual 141, 3) := by decide +kernel
theorem dX5_patch_184 : decode cX5_patch 184 = .ok (.aload_n 0, 1) := by decide +kernel
theorem dX5_patch_185 : decode cX5_patch 185 = .ok (.getfield 58, 3) := by decide +kernel
theorem dX5_patch_188 : decode cX5_patch 188 = .ok (.getfield 78, 3) := by decide +kernel
theorem dX5_patch_191 : decode cX5_patch 191 = .ok (.ireturn, 1) := by decide +kernel
