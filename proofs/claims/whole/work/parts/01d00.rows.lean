set_option maxRecDepth 20000 in
theorem ggX0_init_X2_init : GoodIn wsX0_init wsX2_init := goodIn_r _ [14, 15, 2, 3, 5, 16, 17, 21, 22] (by decide +kernel) (by decide +kernel)
set_option maxRecDepth 20000 in
theorem gX0_init_X2_init : GoodIn wsX0_init (wsX2_init) := ggX0_init_X2_init
theorem dX0_init_0 : decode cX0_init 0 = .ok (.aload_n 0, 1) := by decide +kernel
theorem dX0_init_1 : decode cX0_init 1 = .ok (.invokespecial 3, 3) := by decide +kernel
theorem dX0_init_4 : decode cX0_init 4 = .ok (.aload_n 0, 1) := by decide +kernel
theorem dX0_init_5 : decode cX0_init 5 = .ok (.bipush 21, 2) := by decide +kernel
theorem dX0_init_7 : decode cX0_init 7 = .ok (.bipush 21, 2) := by decide +kernel
theorem dX0_init_9 : decode cX0_init 9 = .ok (.multianewarray 9 2, 4) := by decide +kernel
theorem dX0_init_13 : decode cX0_init 13 = .ok (.putfield 11, 3) := by decide +kernel
theorem dX0_init_16 : decode cX0_init 16 = .ok (.aload_n 0, 1) := by decide +kernel
theorem dX0_init_17 : decode cX0_init 17 = .ok (.new 16, 3) := by decide +kernel
theorem dX0_init_20 : decode cX0_init 20 = .ok (.dup, 1) := by decide +kernel
theorem dX0_init_21 : decode cX0_init 21 = .ok (.iconst 0, 1) := by decide +kernel
theorem dX0_init_22 : decode cX0_init 22 = .ok (.invokespecial 18, 3) := by decide +kernel
theorem dX0_init_25 : decode cX0_init 25 = .ok (.putfield 21, 3) := by decide +kernel
theorem dX0_init_28 : decode cX0_init 28 = .ok (.aload_n 0, 1) := by decide +kernel
theorem dX0_init_29 : decode cX0_init 29 = .ok (.new 16, 3) := by decide +kernel
theorem dX0_init_32 : decode cX0_init 32 = .ok (.dup, 1) := by decide +kernel
theorem dX0_init_33 : decode cX0_init 33 = .ok (.iconst 0, 1) := by decide +kernel
theorem dX0_init_34 : decode cX0_init 34 = .ok (.invokespecial 18, 3) := by decide +kernel
theorem dX0_init_37 : decode cX0_init 37 = .ok (.putfield 25, 3) := by decide +kernel
theorem dX0_init_40 : decode cX0_init 40 = .ok (.return_, 1) := by decide +kernel
set_option maxRecDepth 20000 in
theorem ggX0_compare_X0_restAt : GoodIn wsX0_compare wsX0_restAt := goodIn_r _ [8, 1, 2, 3, 9, 10, 11, 12, 13, 14, 15, 7, 16, 17, 18, 19, 20, 21] (by decide +kernel) (by decide +kernel)
set_option maxRecDepth 20000 in
theorem gX0_compare_X0_restAt : GoodIn wsX0_compare (wsV RX0 32 RX0 yX0_restAt wsX0_restAt) := goodIn_app (goodIn_of _ (by decide +kernel)) ggX0_compare_X0_restAt
theorem dX0_compare_0 : decode cX0_compare 0 = .ok (.aload_n 0, 1) := by decide +kernel
theorem dX0_compare_1 : decode cX0_compare 1 = .ok (.aload_n 1, 1) := by decide +kernel
theorem dX0_compare_2 : decode cX0_compare 2 = .ok (.putfield 21, 3) := by decide +kernel
theorem dX0_compare_5 : decode cX0_compare 5 = .ok (.aload_n 0, 1) := by decide +kernel
theorem dX0_compare_6 : decode cX0_compare 6 = .ok (.aload_n 2, 1) := by decide +kernel
theorem dX0_compare_7 : decode cX0_compare 7 = .ok (.putfield 25, 3) := by decide +kernel
theorem dX0_compare_10 : decode cX0_compare 10 = .ok (.aload_n 0, 1) := by decide +kernel
theorem dX0_compare_11 : decode cX0_compare 11 = .ok (.getfield 21, 3) := by decide +kernel
theorem dX0_compare_14 : decode cX0_compare 14 = .ok (.getfield 28, 3) := by decide +kernel
theorem dX0_compare_17 : decode cX0_compare 17 = .ok (.istore_n 3, 1) := by decide +kernel
theorem dX0_compare_18 : decode cX0_compare 18 = .ok (.iload_n 3, 1) := by decide +kernel
theorem dX0_compare_19 : decode cX0_compare 19 = .ok (.ifCond .lt 45, 3) := by decide +kernel
theorem dX0_compare_22 : decode cX0_compare 22 = .ok (.aload_n 0, 1) := by decide +kernel
theorem dX0_compare_23 : decode cX0_compare 23 = .ok (.getfield 25, 3) := by decide +kernel
theorem dX0_compare_26 : decode cX0_compare 26 = .ok (.getfield 28, 3) := by decide +kernel
theorem dX0_compare_29 : decode cX0_compare 29 = .ok (.istore 4, 2) := by decide +kernel
theorem dX0_compare_31 : decode cX0_compare 31 = .ok (.iload 4, 2) := by decide +kernel
theorem dX0_compare_33 : decode cX0_compare 33 = .ok (.ifCond .lt 25, 3) := by decide +kernel
theorem dX0_compare_36 : decode cX0_compare 36 = .ok (.aload_n 0, 1) := by decide +kernel
theorem dX0_compare_37 : decode cX0_compare 37 = .ok (.getfield 11, 3) := by decide +kernel
theorem dX0_compare_40 : decode cX0_compare 40 = .ok (.iload_n 3, 1) := by decide +kernel
theorem dX0_compare_41 : decode cX0_compare 41 = .ok (.aaload, 1) := by decide +kernel
theorem dX0_compare_42 : decode cX0_compare 42 = .ok (.iload 4, 2) := by decide +kernel
theorem dX0_compare_44 : decode cX0_compare 44 = .ok (.aload_n 0, 1) := by decide +kernel
theorem dX0_compare_45 : decode cX0_compare 45 = .ok (.iload_n 3, 1) := by decide +kernel
theorem dX0_compare_46 : decode cX0_compare 46 = .ok (.iload 4, 2) := by decide +kernel
theorem dX0_compare_48 : decode cX0_compare 48 = .ok (.invokevirtual 32, 3) := by decide +kernel
theorem dX0_compare_51 : decode cX0_compare 51 = .ok (.iastore, 1) := by decide +kernel
theorem dX0_compare_52 : decode cX0_compare 52 = .ok (.iinc 4 (-1), 3) := by decide +kernel
theorem dX0_compare_55 : decode cX0_compare 55 = .ok (.goto (-24), 3) := by decide +kernel
theorem dX0_compare_58 : decode cX0_compare 58 = .ok (.iinc 3 (-1), 3) := by decide +kernel
theorem dX0_compare_61 : decode cX0_compare 61 = .ok (.goto (-43), 3) := by decide +kernel
theorem dX0_compare_64 : decode cX0_compare 64 = .ok (.return_, 1) := by decide +kernel
theorem dX0_operations_0 : decode cX0_operations 0 = .ok (.aload_n 0, 1) := by decide +kernel
theorem dX0_operations_1 : decode cX0_operations 1 = .ok (.getfield 11, 3) := by decide +kernel
theorem dX0_operations_4 : decode cX0_operations 4 = .ok (.iconst 0, 1) := by decide +kernel
theorem dX0_operations_5 : decode cX0_operations 5 = .ok (.aaload, 1) := by decide +kernel
theorem dX0_operations_6 : decode cX0_operations 6 = .ok (.iconst 0, 1) := by decide +kernel
theorem dX0_operations_7 : decode cX0_operations 7 = .ok (.iaload, 1) := by decide +kernel
theorem dX0_operations_8 : decode cX0_operations 8 = .ok (.ireturn, 1) := by decide +kernel
set_option maxRecDepth 20000 in
theorem ggX0_writeTo_X3_empty : GoodIn wsX0_writeTo wsX3_empty := goodIn_r _ [7, 8, 38, 39, 40, 41] (by decide +kernel) (by decide +kernel)
set_option maxRecDepth 20000 in
theorem gX0_writeTo_X3_empty : GoodIn wsX0_writeTo (wsV RX0 36 RX3 yX3_empty wsX3_empty) := goodIn_app (goodIn_of _ (by decide +kernel)) ggX0_writeTo_X3_empty
set_option maxRecDepth 20000 in
theorem ggX0_writeTo_X0_stepAt : GoodIn wsX0_writeTo wsX0_stepAt := goodIn_r _ [13, 1, 14, 15, 16, 17, 12, 18, 2, 33, 34, 35, 36, 37] (by decide +kernel) (by decide +kernel)
set_option maxRecDepth 20000 in
theorem gX0_writeTo_X0_stepAt : GoodIn wsX0_writeTo (wsV RX0 41 RX0 yX0_stepAt wsX0_stepAt) := goodIn_app (goodIn_of _ (by decide +kernel)) ggX0_writeTo_X0_stepAt
set_option maxRecDepth 20000 in
theorem ggX0_writeTo_X2_at : GoodIn wsX0_writeTo wsX2_at := goodIn_r _ [23, 24, 25, 36, 37] (by decide +kernel) (by decide +kernel)
set_option maxRecDepth 20000 in
theorem gX0_writeTo_X2_at : GoodIn wsX0_writeTo (wsV RX0 44 RX2 yX2_at wsX2_at) := goodIn_app (goodIn_of _ (by decide +kernel)) ggX0_writeTo_X2_at
set_option maxRecDepth 20000 in
theorem ggX0_writeTo_X3_add : GoodIn wsX0_writeTo wsX3_add := goodIn_r _ [29, 8, 30, 31, 32, 38, 39, 40, 41] (by decide +kernel) (by decide +kernel)
set_option maxRecDepth 20000 in
theorem gX0_writeTo_X3_add : GoodIn wsX0_writeTo (wsV RX0 47 RX3 yX3_add wsX3_add) := goodIn_app (goodIn_of _ (by decide +kernel)) ggX0_writeTo_X3_add
theorem dX0_writeTo_0 : decode cX0_writeTo 0 = .ok (.aload_n 1, 1) := by decide +kernel
theorem dX0_writeTo_1 : decode cX0_writeTo 1 = .ok (.invokevirtual 36, 3) := by decide +kernel
theorem dX0_writeTo_4 : decode cX0_writeTo 4 = .ok (.iconst 0, 1) := by decide +kernel
theorem dX0_writeTo_5 : decode cX0_writeTo 5 = .ok (.istore_n 2, 1) := by decide +kernel
theorem dX0_writeTo_6 : decode cX0_writeTo 6 = .ok (.iconst 0, 1) := by decide +kernel
theorem dX0_writeTo_7 : decode cX0_writeTo 7 = .ok (.istore_n 3, 1) := by decide +kernel
theorem dX0_writeTo_8 : decode cX0_writeTo 8 = .ok (.iload_n 2, 1) := by decide +kernel
theorem dX0_writeTo_9 : decode cX0_writeTo 9 = .ok (.iload_n 3, 1) := by decide +kernel
theorem dX0_writeTo_10 : decode cX0_writeTo 10 = .ok (.iadd, 1) := by decide +kernel
theorem dX0_writeTo_11 : decode cX0_writeTo 11 = .ok (.aload_n 0, 1) := by decide +kernel
theorem dX0_writeTo_12 : decode cX0_writeTo 12 = .ok (.getfield 21, 3) := by decide +kernel
theorem dX0_writeTo_15 : decode cX0_writeTo 15 = .ok (.getfield 28, 3) := by decide +kernel
theorem dX0_writeTo_18 : decode cX0_writeTo 18 = .ok (.aload_n 0, 1) := by decide +kernel
theorem dX0_writeTo_19 : decode cX0_writeTo 19 = .ok (.getfield 25, 3) := by decide +kernel
theorem dX0_writeTo_22 : decode cX0_writeTo 22 = .ok (.getfield 28, 3) := by decide +kernel
theorem dX0_writeTo_25 : decode cX0_writeTo 25 = .ok (.iadd, 1) := by decide +kernel
theorem dX0_writeTo_26 : decode cX0_writeTo 26 = .ok (.if_icmp .ge 87, 3) := by decide +kernel
theorem dX0_writeTo_29 : decode cX0_writeTo 29 = .ok (.aload_n 0, 1) := by decide +kernel
theorem dX0_writeTo_30 : decode cX0_writeTo 30 = .ok (.iload_n 2, 1) := by decide +kernel
theorem dX0_writeTo_31 : decode cX0_writeTo 31 = .ok (.iload_n 3, 1) := by decide +kernel
theorem dX0_writeTo_32 : decode cX0_writeTo 32 = .ok (.invokevirtual 41, 3) := by decide +kernel
theorem dX0_writeTo_35 : decode cX0_writeTo 35 = .ok (.istore 4, 2) := by decide +kernel
theorem dX0_writeTo_37 : decode cX0_writeTo 37 = .ok (.iload 4, 2) := by decide +kernel
theorem dX0_writeTo_39 : decode cX0_writeTo 39 = .ok (.ifCond .ne 22, 3) := by decide +kernel
theorem dX0_writeTo_42 : decode cX0_writeTo 42 = .ok (.aload_n 1, 1) := by decide +kernel
theorem dX0_writeTo_43 : decode cX0_writeTo 43 = .ok (.iconst 0, 1) := by decide +kernel
theorem dX0_writeTo_44 : decode cX0_writeTo 44 = .ok (.iload_n 2, 1) := by decide +kernel
theorem dX0_writeTo_45 : decode cX0_writeTo 45 = .ok (.aload_n 0, 1) := by decide +kernel
theorem dX0_writeTo_46 : decode cX0_writeTo 46 = .ok (.getfield 21, 3) := by decide +kernel
theorem dX0_writeTo_49 : decode cX0_writeTo 49 = .ok (.iload_n 2, 1) := by decide +kernel
theorem dX0_writeTo_50 : decode cX0_writeTo 50 = .ok (.iconst (-1), 1) := by decide +kernel
theorem dX0_writeTo_51 : decode cX0_writeTo 51 = .ok (.invokevirtual 44, 3) := by decide +kernel
theorem dX0_writeTo_54 : decode cX0_writeTo 54 = .ok (.invokevirtual 47, 3) := by decide +kernel
theorem dX0_writeTo_57 : decode cX0_writeTo 57 = .ok (.pop, 1) := by decide +kernel
theorem dX0_writeTo_58 : decode cX0_writeTo 58 = .ok (.goto 25, 3) := by decide +kernel
theorem dX0_writeTo_61 : decode cX0_writeTo 61 = .ok (.iload 4, 2) := by decide +kernel
theorem dX0_writeTo_63 : decode cX0_writeTo 63 = .ok (.iconst 1, 1) := by decide +kernel
theorem dX0_writeTo_64 : decode cX0_writeTo 64 = .ok (.if_icmp .ne 19, 3) := by decide +kernel
theorem dX0_writeTo_67 : decode cX0_writeTo 67 = .ok (.aload_n 1, 1) := by decide +kernel
theorem dX0_writeTo_68 : decode cX0_writeTo 68 = .ok (.iconst 1, 1) := by decide +kernel
theorem dX0_writeTo_69 : decode cX0_writeTo 69 = .ok (.iload_n 2, 1) := by decide +kernel
theorem dX0_writeTo_70 : decode cX0_writeTo 70 = .ok (.aload_n 0, 1) := by decide +kernel
theorem dX0_writeTo_71 : decode cX0_writeTo 71 = .ok (.getfield 25, 3) := by decide +kernel
theorem dX0_writeTo_74 : decode cX0_writeTo 74 = .ok (.iload_n 3, 1) := by decide +kernel
theorem dX0_writeTo_75 : decode cX0_writeTo 75 = .ok (.iconst (-1), 1) := by decide +kernel
theorem dX0_writeTo_76 : decode cX0_writeTo 76 = .ok (.invokevirtual 44, 3) := by decide +kernel
theorem dX0_writeTo_79 : decode cX0_writeTo 79 = .ok (.invokevirtual 47, 3) := by decide +kernel
theorem dX0_writeTo_82 : decode cX0_writeTo 82 = .ok (.pop, 1) := by decide +kernel
theorem dX0_writeTo_83 : decode cX0_writeTo 83 = .ok (.iload_n 2, 1) := by decide +kernel
theorem dX0_writeTo_84 : decode cX0_writeTo 84 = .ok (.iload 4, 2) := by decide +kernel
theorem dX0_writeTo_86 : decode cX0_writeTo 86 = .ok (.iconst 1, 1) := by decide +kernel
theorem dX0_writeTo_87 : decode cX0_writeTo 87 = .ok (.if_icmp .ne 7, 3) := by decide +kernel
theorem dX0_writeTo_90 : decode cX0_writeTo 90 = .ok (.iconst 0, 1) := by decide +kernel
theorem dX0_writeTo_91 : decode cX0_writeTo 91 = .ok (.goto 4, 3) := by decide +kernel
theorem dX0_writeTo_94 : decode cX0_writeTo 94 = .ok (.iconst 1, 1) := by decide +kernel
theorem dX0_writeTo_95 : decode cX0_writeTo 95 = .ok (.iadd, 1) := by decide +kernel
theorem dX0_writeTo_96 : decode cX0_writeTo 96 = .ok (.istore_n 2, 1) := by decide +kernel
theorem dX0_writeTo_97 : decode cX0_writeTo 97 = .ok (.iload_n 3, 1) := by decide +kernel
theorem dX0_writeTo_98 : decode cX0_writeTo 98 = .ok (.iload 4, 2) := by decide +kernel
theorem dX0_writeTo_100 : decode cX0_writeTo 100 = .ok (.ifCond .ne 7, 3) := by decide +kernel
theorem dX0_writeTo_103 : decode cX0_writeTo 103 = .ok (.iconst 0, 1) := by decide +kernel
theorem dX0_writeTo_104 : decode cX0_writeTo 104 = .ok (.goto 4, 3) := by decide +kernel
theorem dX0_writeTo_107 : decode cX0_writeTo 107 = .ok (.iconst 1, 1) := by decide +kernel
theorem dX0_writeTo_108 : decode cX0_writeTo 108 = .ok (.iadd, 1) := by decide +kernel
theorem dX0_writeTo_109 : decode cX0_writeTo 109 = .ok (.istore_n 3, 1) := by decide +kernel
theorem dX0_writeTo_110 : decode cX0_writeTo 110 = .ok (.goto (-102), 3) := by decide +kernel
theorem dX0_writeTo_113 : decode cX0_writeTo 113 = .ok (.return_, 1) := by decide +kernel
set_option maxRecDepth 20000 in
theorem ggX0_pairTo_X2_empty : GoodIn wsX0_pairTo wsX2_empty := goodIn_r _ [7, 8, 27, 28] (by decide +kernel) (by decide +kernel)
set_option maxRecDepth 20000 in
theorem gX0_pairTo_X2_empty : GoodIn wsX0_pairTo (wsV RX0 51 RX2 yX2_empty wsX2_empty) := goodIn_app (goodIn_of _ (by decide +kernel)) ggX0_pairTo_X2_empty
set_option maxRecDepth 20000 in
theorem ggX0_pairTo_X0_stepAt : GoodIn wsX0_pairTo wsX0_stepAt := goodIn_r _ [13, 1, 14, 15, 16, 17, 12, 18, 2, 24, 25, 26, 27, 28] (by decide +kernel) (by decide +kernel)
set_option maxRecDepth 20000 in
theorem gX0_pairTo_X0_stepAt : GoodIn wsX0_pairTo (wsV RX0 41 RX0 yX0_stepAt wsX0_stepAt) := goodIn_app (goodIn_of _ (by decide +kernel)) ggX0_pairTo_X0_stepAt
set_option maxRecDepth 20000 in
theorem ggX0_pairTo_X2_add : GoodIn wsX0_pairTo wsX2_add := goodIn_r _ [22, 8, 23, 27, 28] (by decide +kernel) (by decide +kernel)
set_option maxRecDepth 20000 in
theorem gX0_pairTo_X2_add : GoodIn wsX0_pairTo (wsV RX0 52 RX2 yX2_add wsX2_add) := goodIn_app (goodIn_of _ (by decide +kernel)) ggX0_pairTo_X2_add
theorem dX0_pairTo_0 : decode cX0_pairTo 0 = .ok (.aload_n 1, 1) := by decide +kernel
theorem dX0_pairTo_1 : decode cX0_pairTo 1 = .ok (.invokevirtual 51, 3) := by decide +kernel
theorem dX0_pairTo_4 : decode cX0_pairTo 4 = .ok (.iconst 0, 1) := by decide +kernel
theorem dX0_pairTo_5 : decode cX0_pairTo 5 = .ok (.istore_n 2, 1) := by decide +kernel
theorem dX0_pairTo_6 : decode cX0_pairTo 6 = .ok (.iconst 0, 1) := by decide +kernel
theorem dX0_pairTo_7 : decode cX0_pairTo 7 = .ok (.istore_n 3, 1) := by decide +kernel
theorem dX0_pairTo_8 : decode cX0_pairTo 8 = .ok (.iload_n 2, 1) := by decide +kernel
theorem dX0_pairTo_9 : decode cX0_pairTo 9 = .ok (.iload_n 3, 1) := by decide +kernel
theorem dX0_pairTo_10 : decode cX0_pairTo 10 = .ok (.iadd, 1) := by decide +kernel
theorem dX0_pairTo_11 : decode cX0_pairTo 11 = .ok (.aload_n 0, 1) := by decide +kernel
theorem dX0_pairTo_12 : decode cX0_pairTo 12 = .ok (.getfield 21, 3) := by decide +kernel
theorem dX0_pairTo_15 : decode cX0_pairTo 15 = .ok (.getfield 28, 3) := by decide +kernel
theorem dX0_pairTo_18 : decode cX0_pairTo 18 = .ok (.aload_n 0, 1) := by decide +kernel
theorem dX0_pairTo_19 : decode cX0_pairTo 19 = .ok (.getfield 25, 3) := by decide +kernel
theorem dX0_pairTo_22 : decode cX0_pairTo 22 = .ok (.getfield 28, 3) := by decide +kernel
theorem dX0_pairTo_25 : decode cX0_pairTo 25 = .ok (.iadd, 1) := by decide +kernel
theorem dX0_pairTo_26 : decode cX0_pairTo 26 = .ok (.if_icmp .ge 63, 3) := by decide +kernel
theorem dX0_pairTo_29 : decode cX0_pairTo 29 = .ok (.aload_n 0, 1) := by decide +kernel
theorem dX0_pairTo_30 : decode cX0_pairTo 30 = .ok (.iload_n 2, 1) := by decide +kernel
theorem dX0_pairTo_31 : decode cX0_pairTo 31 = .ok (.iload_n 3, 1) := by decide +kernel
theorem dX0_pairTo_32 : decode cX0_pairTo 32 = .ok (.invokevirtual 41, 3) := by decide +kernel
theorem dX0_pairTo_35 : decode cX0_pairTo 35 = .ok (.istore 4, 2) := by decide +kernel
theorem dX0_pairTo_37 : decode cX0_pairTo 37 = .ok (.iload 4, 2) := by decide +kernel
theorem dX0_pairTo_39 : decode cX0_pairTo 39 = .ok (.iconst 1, 1) := by decide +kernel
theorem dX0_pairTo_40 : decode cX0_pairTo 40 = .ok (.if_icmp .eq 19, 3) := by decide +kernel
theorem dX0_pairTo_43 : decode cX0_pairTo 43 = .ok (.aload_n 1, 1) := by decide +kernel
theorem dX0_pairTo_44 : decode cX0_pairTo 44 = .ok (.iload 4, 2) := by decide +kernel
theorem dX0_pairTo_46 : decode cX0_pairTo 46 = .ok (.iconst 2, 1) := by decide +kernel
theorem dX0_pairTo_47 : decode cX0_pairTo 47 = .ok (.if_icmp .ne 7, 3) := by decide +kernel
theorem dX0_pairTo_50 : decode cX0_pairTo 50 = .ok (.iload_n 3, 1) := by decide +kernel
theorem dX0_pairTo_51 : decode cX0_pairTo 51 = .ok (.goto 4, 3) := by decide +kernel
theorem dX0_pairTo_54 : decode cX0_pairTo 54 = .ok (.iconst (-1), 1) := by decide +kernel
theorem dX0_pairTo_55 : decode cX0_pairTo 55 = .ok (.invokevirtual 52, 3) := by decide +kernel
theorem dX0_pairTo_58 : decode cX0_pairTo 58 = .ok (.pop, 1) := by decide +kernel
theorem dX0_pairTo_59 : decode cX0_pairTo 59 = .ok (.iload_n 2, 1) := by decide +kernel
theorem dX0_pairTo_60 : decode cX0_pairTo 60 = .ok (.iload 4, 2) := by decide +kernel
theorem dX0_pairTo_62 : decode cX0_pairTo 62 = .ok (.iconst 1, 1) := by decide +kernel
theorem dX0_pairTo_63 : decode cX0_pairTo 63 = .ok (.if_icmp .ne 7, 3) := by decide +kernel
theorem dX0_pairTo_66 : decode cX0_pairTo 66 = .ok (.iconst 0, 1) := by decide +kernel
theorem dX0_pairTo_67 : decode cX0_pairTo 67 = .ok (.goto 4, 3) := by decide +kernel
theorem dX0_pairTo_70 : decode cX0_pairTo 70 = .ok (.iconst 1, 1) := by decide +kernel
theorem dX0_pairTo_71 : decode cX0_pairTo 71 = .ok (.iadd, 1) := by decide +kernel
theorem dX0_pairTo_72 : decode cX0_pairTo 72 = .ok (.istore_n 2, 1) := by decide +kernel
theorem dX0_pairTo_73 : decode cX0_pairTo 73 = .ok (.iload_n 3, 1) := by decide +kernel
theorem dX0_pairTo_74 : decode cX0_pairTo 74 = .ok (.iload 4, 2) := by decide +kernel
theorem dX0_pairTo_76 : decode cX0_pairTo 76 = .ok (.ifCond .ne 7, 3) := by decide +kernel
theorem dX0_pairTo_79 : decode cX0_pairTo 79 = .ok (.iconst 0, 1) := by decide +kernel
theorem dX0_pairTo_80 : decode cX0_pairTo 80 = .ok (.goto 4, 3) := by decide +kernel
theorem dX0_pairTo_83 : decode cX0_pairTo 83 = .ok (.iconst 1, 1) := by decide +kernel
theorem dX0_pairTo_84 : decode cX0_pairTo 84 = .ok (.iadd, 1) := by decide +kernel
theorem dX0_pairTo_85 : decode cX0_pairTo 85 = .ok (.istore_n 3, 1) := by decide +kernel
theorem dX0_pairTo_86 : decode cX0_pairTo 86 = .ok (.goto (-78), 3) := by decide +kernel
theorem dX0_pairTo_89 : decode cX0_pairTo 89 = .ok (.return_, 1) := by decide +kernel
set_option maxRecDepth 20000 in
theorem ggX0_restAt_X0_isSame : GoodIn wsX0_restAt wsX0_isSame := goodIn_r _ [12, 1, 2, 13, 14, 15, 16, 17] (by decide +kernel) (by decide +kernel)
set_option maxRecDepth 20000 in
theorem gX0_restAt_X0_isSame : GoodIn wsX0_restAt (wsV RX0 55 RX0 yX0_isSame wsX0_isSame) := goodIn_app (goodIn_of _ (by decide +kernel)) ggX0_restAt_X0_isSame
theorem dX0_restAt_0 : decode cX0_restAt 0 = .ok (.iload_n 1, 1) := by decide +kernel
theorem dX0_restAt_1 : decode cX0_restAt 1 = .ok (.aload_n 0, 1) := by decide +kernel
theorem dX0_restAt_2 : decode cX0_restAt 2 = .ok (.getfield 21, 3) := by decide +kernel
theorem dX0_restAt_5 : decode cX0_restAt 5 = .ok (.getfield 28, 3) := by decide +kernel
theorem dX0_restAt_8 : decode cX0_restAt 8 = .ok (.if_icmp .ge 14, 3) := by decide +kernel
theorem dX0_restAt_11 : decode cX0_restAt 11 = .ok (.iload_n 2, 1) := by decide +kernel
theorem dX0_restAt_12 : decode cX0_restAt 12 = .ok (.aload_n 0, 1) := by decide +kernel
theorem dX0_restAt_13 : decode cX0_restAt 13 = .ok (.getfield 25, 3) := by decide +kernel
theorem dX0_restAt_16 : decode cX0_restAt 16 = .ok (.getfield 28, 3) := by decide +kernel
theorem dX0_restAt_19 : decode cX0_restAt 19 = .ok (.if_icmp .lt 23, 3) := by decide +kernel
theorem dX0_restAt_22 : decode cX0_restAt 22 = .ok (.aload_n 0, 1) := by decide +kernel
theorem dX0_restAt_23 : decode cX0_restAt 23 = .ok (.getfield 21, 3) := by decide +kernel
theorem dX0_restAt_26 : decode cX0_restAt 26 = .ok (.getfield 28, 3) := by decide +kernel
theorem dX0_restAt_29 : decode cX0_restAt 29 = .ok (.iload_n 1, 1) := by decide +kernel
theorem dX0_restAt_30 : decode cX0_restAt 30 = .ok (.isub, 1) := by decide +kernel
theorem dX0_restAt_31 : decode cX0_restAt 31 = .ok (.aload_n 0, 1) := by decide +kernel
theorem dX0_restAt_32 : decode cX0_restAt 32 = .ok (.getfield 25, 3) := by decide +kernel
theorem dX0_restAt_35 : decode cX0_restAt 35 = .ok (.getfield 28, 3) := by decide +kernel
theorem dX0_restAt_38 : decode cX0_restAt 38 = .ok (.iadd, 1) := by decide +kernel
theorem dX0_restAt_39 : decode cX0_restAt 39 = .ok (.iload_n 2, 1) := by decide +kernel
theorem dX0_restAt_40 : decode cX0_restAt 40 = .ok (.isub, 1) := by decide +kernel
theorem dX0_restAt_41 : decode cX0_restAt 41 = .ok (.ireturn, 1) := by decide +kernel
theorem dX0_restAt_42 : decode cX0_restAt 42 = .ok (.aload_n 0, 1) := by decide +kernel
theorem dX0_restAt_43 : decode cX0_restAt 43 = .ok (.iload_n 1, 1) := by decide +kernel
theorem dX0_restAt_44 : decode cX0_restAt 44 = .ok (.iload_n 2, 1) := by decide +kernel
theorem dX0_restAt_45 : decode cX0_restAt 45 = .ok (.invokevirtual 55, 3) := by decide +kernel
theorem dX0_restAt_48 : decode cX0_restAt 48 = .ok (.ifCond .eq 16, 3) := by decide +kernel
theorem dX0_restAt_51 : decode cX0_restAt 51 = .ok (.aload_n 0, 1) := by decide +kernel
theorem dX0_restAt_52 : decode cX0_restAt 52 = .ok (.getfield 11, 3) := by decide +kernel
theorem dX0_restAt_55 : decode cX0_restAt 55 = .ok (.iload_n 1, 1) := by decide +kernel
theorem dX0_restAt_56 : decode cX0_restAt 56 = .ok (.iconst 1, 1) := by decide +kernel
theorem dX0_restAt_57 : decode cX0_restAt 57 = .ok (.iadd, 1) := by decide +kernel
theorem dX0_restAt_58 : decode cX0_restAt 58 = .ok (.aaload, 1) := by decide +kernel
theorem dX0_restAt_59 : decode cX0_restAt 59 = .ok (.iload_n 2, 1) := by decide +kernel
theorem dX0_restAt_60 : decode cX0_restAt 60 = .ok (.iconst 1, 1) := by decide +kernel
theorem dX0_restAt_61 : decode cX0_restAt 61 = .ok (.iadd, 1) := by decide +kernel
theorem dX0_restAt_62 : decode cX0_restAt 62 = .ok (.iaload, 1) := by decide +kernel
theorem dX0_restAt_63 : decode cX0_restAt 63 = .ok (.ireturn, 1) := by decide +kernel
theorem dX0_restAt_64 : decode cX0_restAt 64 = .ok (.iconst 1, 1) := by decide +kernel
theorem dX0_restAt_65 : decode cX0_restAt 65 = .ok (.aload_n 0, 1) := by decide +kernel
theorem dX0_restAt_66 : decode cX0_restAt 66 = .ok (.getfield 11, 3) := by decide +kernel
theorem dX0_restAt_69 : decode cX0_restAt 69 = .ok (.iload_n 1, 1) := by decide +kernel
theorem dX0_restAt_70 : decode cX0_restAt 70 = .ok (.iconst 1, 1) := by decide +kernel
theorem dX0_restAt_71 : decode cX0_restAt 71 = .ok (.iadd, 1) := by decide +kernel
theorem dX0_restAt_72 : decode cX0_restAt 72 = .ok (.aaload, 1) := by decide +kernel
theorem dX0_restAt_73 : decode cX0_restAt 73 = .ok (.iload_n 2, 1) := by decide +kernel
theorem dX0_restAt_74 : decode cX0_restAt 74 = .ok (.iaload, 1) := by decide +kernel
theorem dX0_restAt_75 : decode cX0_restAt 75 = .ok (.aload_n 0, 1) := by decide +kernel
theorem dX0_restAt_76 : decode cX0_restAt 76 = .ok (.getfield 11, 3) := by decide +kernel
theorem dX0_restAt_79 : decode cX0_restAt 79 = .ok (.iload_n 1, 1) := by decide +kernel
theorem dX0_restAt_80 : decode cX0_restAt 80 = .ok (.aaload, 1) := by decide +kernel
theorem dX0_restAt_81 : decode cX0_restAt 81 = .ok (.iload_n 2, 1) := by decide +kernel
theorem dX0_restAt_82 : decode cX0_restAt 82 = .ok (.iconst 1, 1) := by decide +kernel
theorem dX0_restAt_83 : decode cX0_restAt 83 = .ok (.iadd, 1) := by decide +kernel
theorem dX0_restAt_84 : decode cX0_restAt 84 = .ok (.iaload, 1) := by decide +kernel
theorem dX0_restAt_85 : decode cX0_restAt 85 = .ok (.invokestatic 59, 3) := by decide +kernel
theorem dX0_restAt_88 : decode cX0_restAt 88 = .ok (.iadd, 1) := by decide +kernel
theorem dX0_restAt_89 : decode cX0_restAt 89 = .ok (.ireturn, 1) := by decide +kernel
set_option maxRecDepth 20000 in
theorem ggX0_stepAt_X0_isSame : GoodIn wsX0_stepAt wsX0_isSame := goodIn_r _ [7, 1, 8, 9, 10, 11, 12, 13] (by decide +kernel) (by decide +kernel)
set_option maxRecDepth 20000 in
theorem gX0_stepAt_X0_isSame : GoodIn wsX0_stepAt (wsV RX0 55 RX0 yX0_isSame wsX0_isSame) := goodIn_app (goodIn_of _ (by decide +kernel)) ggX0_stepAt_X0_isSame
theorem dX0_stepAt_0 : decode cX0_stepAt 0 = .ok (.aload_n 0, 1) := by decide +kernel
theorem dX0_stepAt_1 : decode cX0_stepAt 1 = .ok (.iload_n 1, 1) := by decide +kernel
theorem dX0_stepAt_2 : decode cX0_stepAt 2 = .ok (.iload_n 2, 1) := by decide +kernel
theorem dX0_stepAt_3 : decode cX0_stepAt 3 = .ok (.invokevirtual 55, 3) := by decide +kernel
theorem dX0_stepAt_6 : decode cX0_stepAt 6 = .ok (.ifCond .eq 5, 3) := by decide +kernel
theorem dX0_stepAt_9 : decode cX0_stepAt 9 = .ok (.iconst 2, 1) := by decide +kernel
theorem dX0_stepAt_10 : decode cX0_stepAt 10 = .ok (.ireturn, 1) := by decide +kernel
theorem dX0_stepAt_11 : decode cX0_stepAt 11 = .ok (.iload_n 1, 1) := by decide +kernel
theorem dX0_stepAt_12 : decode cX0_stepAt 12 = .ok (.aload_n 0, 1) := by decide +kernel
theorem dX0_stepAt_13 : decode cX0_stepAt 13 = .ok (.getfield 21, 3) := by decide +kernel
theorem dX0_stepAt_16 : decode cX0_stepAt 16 = .ok (.getfield 28, 3) := by decide +kernel
theorem dX0_stepAt_19 : decode cX0_stepAt 19 = .ok (.if_icmp .ge 28, 3) := by decide +kernel
theorem dX0_stepAt_22 : decode cX0_stepAt 22 = .ok (.aload_n 0, 1) := by decide +kernel
theorem dX0_stepAt_23 : decode cX0_stepAt 23 = .ok (.getfield 11, 3) := by decide +kernel
theorem dX0_stepAt_26 : decode cX0_stepAt 26 = .ok (.iload_n 1, 1) := by decide +kernel
theorem dX0_stepAt_27 : decode cX0_stepAt 27 = .ok (.iconst 1, 1) := by decide +kernel
theorem dX0_stepAt_28 : decode cX0_stepAt 28 = .ok (.iadd, 1) := by decide +kernel
theorem dX0_stepAt_29 : decode cX0_stepAt 29 = .ok (.aaload, 1) := by decide +kernel
theorem dX0_stepAt_30 : decode cX0_stepAt 30 = .ok (.iload_n 2, 1) := by decide +kernel
theorem dX0_stepAt_31 : decode cX0_stepAt 31 = .ok (.iaload, 1) := by decide +kernel
theorem dX0_stepAt_32 : decode cX0_stepAt 32 = .ok (.aload_n 0, 1) := by decide +kernel
theorem dX0_stepAt_33 : decode cX0_stepAt 33 = .ok (.getfield 11, 3) := by decide +kernel
theorem dX0_stepAt_36 : decode cX0_stepAt 36 = .ok (.iload_n 1, 1) := by decide +kernel
theorem dX0_stepAt_37 : decode cX0_stepAt 37 = .ok (.aaload, 1) := by decide +kernel
theorem dX0_stepAt_38 : decode cX0_stepAt 38 = .ok (.iload_n 2, 1) := by decide +kernel
theorem dX0_stepAt_39 : decode cX0_stepAt 39 = .ok (.iaload, 1) := by decide +kernel
theorem dX0_stepAt_40 : decode cX0_stepAt 40 = .ok (.if_icmp .ge 7, 3) := by decide +kernel
theorem dX0_stepAt_43 : decode cX0_stepAt 43 = .ok (.iconst 0, 1) := by decide +kernel
theorem dX0_stepAt_44 : decode cX0_stepAt 44 = .ok (.goto 4, 3) := by decide +kernel
theorem dX0_stepAt_47 : decode cX0_stepAt 47 = .ok (.iconst 1, 1) := by decide +kernel
theorem dX0_stepAt_48 : decode cX0_stepAt 48 = .ok (.ireturn, 1) := by decide +kernel
theorem dX0_isSame_0 : decode cX0_isSame 0 = .ok (.iload_n 1, 1) := by decide +kernel
theorem dX0_isSame_1 : decode cX0_isSame 1 = .ok (.aload_n 0, 1) := by decide +kernel
theorem dX0_isSame_2 : decode cX0_isSame 2 = .ok (.getfield 21, 3) := by decide +kernel
theorem dX0_isSame_5 : decode cX0_isSame 5 = .ok (.getfield 28, 3) := by decide +kernel
theorem dX0_isSame_8 : decode cX0_isSame 8 = .ok (.if_icmp .ge 39, 3) := by decide +kernel
theorem dX0_isSame_11 : decode cX0_isSame 11 = .ok (.iload_n 2, 1) := by decide +kernel
theorem dX0_isSame_12 : decode cX0_isSame 12 = .ok (.aload_n 0, 1) := by decide +kernel
theorem dX0_isSame_13 : decode cX0_isSame 13 = .ok (.getfield 25, 3) := by decide +kernel
theorem dX0_isSame_16 : decode cX0_isSame 16 = .ok (.getfield 28, 3) := by decide +kernel
theorem dX0_isSame_19 : decode cX0_isSame 19 = .ok (.if_icmp .ge 28, 3) := by decide +kernel
theorem dX0_isSame_22 : decode cX0_isSame 22 = .ok (.aload_n 0, 1) := by decide +kernel
theorem dX0_isSame_23 : decode cX0_isSame 23 = .ok (.getfield 21, 3) := by decide +kernel
theorem dX0_isSame_26 : decode cX0_isSame 26 = .ok (.getfield 64, 3) := by decide +kernel
theorem dX0_isSame_29 : decode cX0_isSame 29 = .ok (.iload_n 1, 1) := by decide +kernel
theorem dX0_isSame_30 : decode cX0_isSame 30 = .ok (.iaload, 1) := by decide +kernel
theorem dX0_isSame_31 : decode cX0_isSame 31 = .ok (.aload_n 0, 1) := by decide +kernel
theorem dX0_isSame_32 : decode cX0_isSame 32 = .ok (.getfield 25, 3) := by decide +kernel
theorem dX0_isSame_35 : decode cX0_isSame 35 = .ok (.getfield 64, 3) := by decide +kernel
theorem dX0_isSame_38 : decode cX0_isSame 38 = .ok (.iload_n 2, 1) := by decide +kernel
theorem dX0_isSame_39 : decode cX0_isSame 39 = .ok (.iaload, 1) := by decide +kernel
theorem dX0_isSame_40 : decode cX0_isSame 40 = .ok (.if_icmp .ne 7, 3) := by decide +kernel
theorem dX0_isSame_43 : decode cX0_isSame 43 = .ok (.iconst 1, 1) := by decide +kernel
theorem dX0_isSame_44 : decode cX0_isSame 44 = .ok (.goto 4, 3) := by decide +kernel
theorem dX0_isSame_47 : decode cX0_isSame 47 = .ok (.iconst 0, 1) := by decide +kernel
theorem dX0_isSame_48 : decode cX0_isSame 48 = .ok (.ireturn, 1) := by decide +kernel
set_option maxRecDepth 20000 in
theorem ggX1_init_X2_init : GoodIn wsX1_init wsX2_init := goodIn_r _ [17, 18, 2, 3, 19, 20, 21, 31, 32] (by decide +kernel) (by decide +kernel)
set_option maxRecDepth 20000 in
theorem gX1_init_X2_init : GoodIn wsX1_init (wsX2_init) := ggX1_init_X2_init
set_option maxRecDepth 20000 in
theorem ggX1_init_X4_init : GoodIn wsX1_init wsX4_init := goodIn_r _ [24, 25, 2, 3, 26, 5, 6, 27, 28, 29, 30, 16, 17, 18, 19, 20, 21, 31, 32, 38, 39, 40] (by decide +kernel) (by decide +kernel)
set_option maxRecDepth 20000 in
theorem gX1_init_X4_init : GoodIn wsX1_init (wsX4_init) := ggX1_init_X4_init
theorem dX1_init_0 : decode cX1_init 0 = .ok (.aload_n 0, 1) := by decide +kernel
theorem dX1_init_1 : decode cX1_init 1 = .ok (.invokespecial 3, 3) := by decide +kernel
theorem dX1_init_4 : decode cX1_init 4 = .ok (.aload_n 0, 1) := by decide +kernel
theorem dX1_init_5 : decode cX1_init 5 = .ok (.new 9, 3) := by decide +kernel
theorem dX1_init_8 : decode cX1_init 8 = .ok (.dup, 1) := by decide +kernel
theorem dX1_init_9 : decode cX1_init 9 = .ok (.bipush 20, 2) := by decide +kernel
theorem dX1_init_11 : decode cX1_init 11 = .ok (.invokespecial 11, 3) := by decide +kernel
theorem dX1_init_14 : decode cX1_init 14 = .ok (.putfield 14, 3) := by decide +kernel
theorem dX1_init_17 : decode cX1_init 17 = .ok (.aload_n 0, 1) := by decide +kernel
theorem dX1_init_18 : decode cX1_init 18 = .ok (.new 9, 3) := by decide +kernel
theorem dX1_init_21 : decode cX1_init 21 = .ok (.dup, 1) := by decide +kernel
theorem dX1_init_22 : decode cX1_init 22 = .ok (.bipush 20, 2) := by decide +kernel
theorem dX1_init_24 : decode cX1_init 24 = .ok (.invokespecial 11, 3) := by decide +kernel
theorem dX1_init_27 : decode cX1_init 27 = .ok (.putfield 20, 3) := by decide +kernel
theorem dX1_init_30 : decode cX1_init 30 = .ok (.aload_n 0, 1) := by decide +kernel
theorem dX1_init_31 : decode cX1_init 31 = .ok (.new 23, 3) := by decide +kernel
theorem dX1_init_34 : decode cX1_init 34 = .ok (.dup, 1) := by decide +kernel
theorem dX1_init_35 : decode cX1_init 35 = .ok (.invokespecial 25, 3) := by decide +kernel
theorem dX1_init_38 : decode cX1_init 38 = .ok (.putfield 26, 3) := by decide +kernel
theorem dX1_init_41 : decode cX1_init 41 = .ok (.aload_n 0, 1) := by decide +kernel
theorem dX1_init_42 : decode cX1_init 42 = .ok (.new 23, 3) := by decide +kernel
theorem dX1_init_45 : decode cX1_init 45 = .ok (.dup, 1) := by decide +kernel
theorem dX1_init_46 : decode cX1_init 46 = .ok (.invokespecial 25, 3) := by decide +kernel
theorem dX1_init_49 : decode cX1_init 49 = .ok (.putfield 30, 3) := by decide +kernel
theorem dX1_init_52 : decode cX1_init 52 = .ok (.aload_n 0, 1) := by decide +kernel
theorem dX1_init_53 : decode cX1_init 53 = .ok (.new 23, 3) := by decide +kernel
theorem dX1_init_56 : decode cX1_init 56 = .ok (.dup, 1) := by decide +kernel
theorem dX1_init_57 : decode cX1_init 57 = .ok (.invokespecial 25, 3) := by decide +kernel
theorem dX1_init_60 : decode cX1_init 60 = .ok (.putfield 33, 3) := by decide +kernel
theorem dX1_init_63 : decode cX1_init 63 = .ok (.return_, 1) := by decide +kernel
set_option maxRecDepth 20000 in
theorem ggX1_begin_X0_compare : GoodIn wsX1_begin wsX0_compare := goodIn_r _ [10, 11, 12, 13, 14, 15, 16, 9, 17, 18, 19, 20, 21, 22, 23, 24, 25, 58, 59, 60, 61, 62] (by decide +kernel) (by decide +kernel)
set_option maxRecDepth 20000 in
theorem gX1_begin_X0_compare : GoodIn wsX1_begin (wsV RX1 36 RX0 yX0_compare wsX0_compare) := goodIn_app (goodIn_of _ (by decide +kernel)) ggX1_begin_X0_compare
set_option maxRecDepth 20000 in
theorem ggX1_begin_X0_pairTo : GoodIn wsX1_begin wsX0_pairTo := goodIn_r _ [29, 11, 12, 30, 31, 32, 33, 34, 35, 36, 37, 38, 9, 39, 13, 22, 23, 24, 25, 40, 41, 42, 43, 44, 58, 59, 60, 61, 62] (by decide +kernel) (by decide +kernel)
set_option maxRecDepth 20000 in
theorem gX1_begin_X0_pairTo : GoodIn wsX1_begin (wsV RX1 42 RX0 yX0_pairTo wsX0_pairTo) := goodIn_app (goodIn_of _ (by decide +kernel)) ggX1_begin_X0_pairTo
set_option maxRecDepth 20000 in
theorem ggX1_begin_X4_begin : GoodIn wsX1_begin wsX4_begin := goodIn_r _ [49, 50, 51, 52, 63, 64, 65] (by decide +kernel) (by decide +kernel)
set_option maxRecDepth 20000 in
theorem gX1_begin_X4_begin : GoodIn wsX1_begin (wsV RX1 46 RX4 yX4_begin wsX4_begin) := goodIn_app (goodIn_of _ (by decide +kernel)) ggX1_begin_X4_begin
theorem dX1_begin_0 : decode cX1_begin 0 = .ok (.aload 4, 2) := by decide +kernel
theorem dX1_begin_2 : decode cX1_begin 2 = .ok (.aload_n 1, 1) := by decide +kernel
theorem dX1_begin_3 : decode cX1_begin 3 = .ok (.aload_n 2, 1) := by decide +kernel
theorem dX1_begin_4 : decode cX1_begin 4 = .ok (.invokevirtual 36, 3) := by decide +kernel
theorem dX1_begin_7 : decode cX1_begin 7 = .ok (.aload 4, 2) := by decide +kernel
theorem dX1_begin_9 : decode cX1_begin 9 = .ok (.aload_n 0, 1) := by decide +kernel
theorem dX1_begin_10 : decode cX1_begin 10 = .ok (.getfield 14, 3) := by decide +kernel
theorem dX1_begin_13 : decode cX1_begin 13 = .ok (.invokevirtual 42, 3) := by decide +kernel
theorem dX1_begin_16 : decode cX1_begin 16 = .ok (.aload 4, 2) := by decide +kernel
theorem dX1_begin_18 : decode cX1_begin 18 = .ok (.aload_n 1, 1) := by decide +kernel
theorem dX1_begin_19 : decode cX1_begin 19 = .ok (.aload_n 3, 1) := by decide +kernel
theorem dX1_begin_20 : decode cX1_begin 20 = .ok (.invokevirtual 36, 3) := by decide +kernel
theorem dX1_begin_23 : decode cX1_begin 23 = .ok (.aload 4, 2) := by decide +kernel
theorem dX1_begin_25 : decode cX1_begin 25 = .ok (.aload_n 0, 1) := by decide +kernel
theorem dX1_begin_26 : decode cX1_begin 26 = .ok (.getfield 20, 3) := by decide +kernel
theorem dX1_begin_29 : decode cX1_begin 29 = .ok (.invokevirtual 42, 3) := by decide +kernel
theorem dX1_begin_32 : decode cX1_begin 32 = .ok (.aload_n 0, 1) := by decide +kernel
theorem dX1_begin_33 : decode cX1_begin 33 = .ok (.getfield 26, 3) := by decide +kernel
theorem dX1_begin_36 : decode cX1_begin 36 = .ok (.aload_n 1, 1) := by decide +kernel
theorem dX1_begin_37 : decode cX1_begin 37 = .ok (.invokevirtual 46, 3) := by decide +kernel
theorem dX1_begin_40 : decode cX1_begin 40 = .ok (.aload_n 0, 1) := by decide +kernel
theorem dX1_begin_41 : decode cX1_begin 41 = .ok (.getfield 30, 3) := by decide +kernel
theorem dX1_begin_44 : decode cX1_begin 44 = .ok (.aload_n 2, 1) := by decide +kernel
theorem dX1_begin_45 : decode cX1_begin 45 = .ok (.invokevirtual 46, 3) := by decide +kernel
theorem dX1_begin_48 : decode cX1_begin 48 = .ok (.aload_n 0, 1) := by decide +kernel
theorem dX1_begin_49 : decode cX1_begin 49 = .ok (.getfield 33, 3) := by decide +kernel
theorem dX1_begin_52 : decode cX1_begin 52 = .ok (.aload_n 3, 1) := by decide +kernel
theorem dX1_begin_53 : decode cX1_begin 53 = .ok (.invokevirtual 46, 3) := by decide +kernel
theorem dX1_begin_56 : decode cX1_begin 56 = .ok (.return_, 1) := by decide +kernel
set_option maxRecDepth 20000 in
theorem ggX1_mergeTo_X4_endOfRow : GoodIn wsX1_mergeTo wsX4_endOfRow := goodIn_r _ [10, 11, 75, 76, 77, 78, 79] (by decide +kernel) (by decide +kernel)
set_option maxRecDepth 20000 in
theorem gX1_mergeTo_X4_endOfRow : GoodIn wsX1_mergeTo (wsV RX1 49 RX4 yX4_endOfRow wsX4_endOfRow) := goodIn_app (goodIn_of _ (by decide +kernel)) ggX1_mergeTo_X4_endOfRow
set_option maxRecDepth 20000 in
theorem ggX1_mergeTo_X1_isStable : GoodIn wsX1_mergeTo wsX1_isStable := goodIn_r _ [16, 2, 3, 17, 18, 19, 20, 21, 22, 23, 70, 71, 72, 73, 74, 78, 79] (by decide +kernel) (by decide +kernel)
set_option maxRecDepth 20000 in
theorem gX1_mergeTo_X1_isStable : GoodIn wsX1_mergeTo (wsV RX1 53 RX1 yX1_isStable wsX1_isStable) := goodIn_app (goodIn_of _ (by decide +kernel)) ggX1_mergeTo_X1_isStable
set_option maxRecDepth 20000 in
theorem ggX1_mergeTo_X2_at : GoodIn wsX1_mergeTo wsX2_at := goodIn_r _ [21, 22, 23, 78, 79] (by decide +kernel) (by decide +kernel)
set_option maxRecDepth 20000 in
theorem gX1_mergeTo_X2_at : GoodIn wsX1_mergeTo (wsV RX1 57 RX2 yX2_at wsX2_at) := goodIn_app (goodIn_of _ (by decide +kernel)) ggX1_mergeTo_X2_at
set_option maxRecDepth 20000 in
theorem ggX1_mergeTo_X1_endStretches : GoodIn wsX1_mergeTo wsX1_endStretches := goodIn_r _ [27, 1, 4, 5, 28, 29, 30, 9, 31, 32, 70, 71, 72, 73, 74, 75, 76, 77] (by decide +kernel) (by decide +kernel)
set_option maxRecDepth 20000 in
theorem gX1_mergeTo_X1_endStretches : GoodIn wsX1_mergeTo (wsV RX1 61 RX1 yX1_endStretches wsX1_endStretches) := goodIn_app (goodIn_of _ (by decide +kernel)) ggX1_mergeTo_X1_endStretches
set_option maxRecDepth 20000 in
theorem ggX1_mergeTo_X1_mergeStretch : GoodIn wsX1_mergeTo wsX1_mergeStretch := goodIn_r _ [36, 4, 5, 1, 37, 38, 39, 9, 40, 32, 41, 42, 43, 44, 45, 11, 46, 18, 19, 20, 21, 22, 23, 47, 48, 49, 50, 51, 52, 53, 54, 55, 56, 57, 58, 59, 60, 70, 71, 72, 73, 74, 75, 76, 77, 78, 79] (by decide +kernel) (by decide +kernel)
set_option maxRecDepth 20000 in
theorem gX1_mergeTo_X1_mergeStretch : GoodIn wsX1_mergeTo (wsV RX1 65 RX1 yX1_mergeStretch wsX1_mergeStretch) := goodIn_app (goodIn_of _ (by decide +kernel)) ggX1_mergeTo_X1_mergeStretch
set_option maxRecDepth 20000 in
theorem ggX1_mergeTo_X4_symbolAt : GoodIn wsX1_mergeTo wsX4_symbolAt := goodIn_r _ [45, 11, 46, 18, 19, 20, 21, 22, 23, 75, 76, 77, 78, 79] (by decide +kernel) (by decide +kernel)
set_option maxRecDepth 20000 in
theorem gX1_mergeTo_X4_symbolAt : GoodIn wsX1_mergeTo (wsV RX1 69 RX4 yX4_symbolAt wsX4_symbolAt) := goodIn_app (goodIn_of _ (by decide +kernel)) ggX1_mergeTo_X4_symbolAt
set_option maxRecDepth 20000 in
theorem ggX1_mergeTo_X2_add : GoodIn wsX1_mergeTo wsX2_add := goodIn_r _ [59, 22, 23, 78, 79] (by decide +kernel) (by decide +kernel)
set_option maxRecDepth 20000 in
theorem gX1_mergeTo_X2_add : GoodIn wsX1_mergeTo (wsV RX1 73 RX2 yX2_add wsX2_add) := goodIn_app (goodIn_of _ (by decide +kernel)) ggX1_mergeTo_X2_add
set_option maxRecDepth 20000 in
theorem ggX1_mergeTo_X1_goOnBehindStable : GoodIn wsX1_mergeTo wsX1_goOnBehindStable := goodIn_r _ [65, 1, 4, 5, 66, 67, 68, 9, 69, 32, 41, 70, 71, 72, 73, 74, 75, 76, 77] (by decide +kernel) (by decide +kernel)
set_option maxRecDepth 20000 in
theorem gX1_mergeTo_X1_goOnBehindStable : GoodIn wsX1_mergeTo (wsV RX1 76 RX1 yX1_goOnBehindStable wsX1_goOnBehindStable) := goodIn_app (goodIn_of _ (by decide +kernel)) ggX1_mergeTo_X1_goOnBehindStable
theorem dX1_mergeTo_0 : decode cX1_mergeTo 0 = .ok (.iconst 0, 1) := by decide +kernel
theorem dX1_mergeTo_1 : decode cX1_mergeTo 1 = .ok (.istore_n 2, 1) := by decide +kernel
theorem dX1_mergeTo_2 : decode cX1_mergeTo 2 = .ok (.iconst 0, 1) := by decide +kernel
theorem dX1_mergeTo_3 : decode cX1_mergeTo 3 = .ok (.istore_n 3, 1) := by decide +kernel
theorem dX1_mergeTo_4 : decode cX1_mergeTo 4 = .ok (.iload_n 3, 1) := by decide +kernel
theorem dX1_mergeTo_5 : decode cX1_mergeTo 5 = .ok (.aload_n 0, 1) := by decide +kernel
theorem dX1_mergeTo_6 : decode cX1_mergeTo 6 = .ok (.getfield 26, 3) := by decide +kernel
theorem dX1_mergeTo_9 : decode cX1_mergeTo 9 = .ok (.invokevirtual 49, 3) := by decide +kernel
theorem dX1_mergeTo_12 : decode cX1_mergeTo 12 = .ok (.if_icmp .ge 65, 3) := by decide +kernel
theorem dX1_mergeTo_15 : decode cX1_mergeTo 15 = .ok (.aload_n 0, 1) := by decide +kernel
theorem dX1_mergeTo_16 : decode cX1_mergeTo 16 = .ok (.iload_n 3, 1) := by decide +kernel
theorem dX1_mergeTo_17 : decode cX1_mergeTo 17 = .ok (.invokevirtual 53, 3) := by decide +kernel
theorem dX1_mergeTo_20 : decode cX1_mergeTo 20 = .ok (.ifCond .eq 51, 3) := by decide +kernel
theorem dX1_mergeTo_23 : decode cX1_mergeTo 23 = .ok (.aload_n 0, 1) := by decide +kernel
theorem dX1_mergeTo_24 : decode cX1_mergeTo 24 = .ok (.iload_n 3, 1) := by decide +kernel
theorem dX1_mergeTo_25 : decode cX1_mergeTo 25 = .ok (.aload_n 0, 1) := by decide +kernel
theorem dX1_mergeTo_26 : decode cX1_mergeTo 26 = .ok (.getfield 14, 3) := by decide +kernel
theorem dX1_mergeTo_29 : decode cX1_mergeTo 29 = .ok (.iload_n 3, 1) := by decide +kernel
theorem dX1_mergeTo_30 : decode cX1_mergeTo 30 = .ok (.iconst (-1), 1) := by decide +kernel
theorem dX1_mergeTo_31 : decode cX1_mergeTo 31 = .ok (.invokevirtual 57, 3) := by decide +kernel
theorem dX1_mergeTo_34 : decode cX1_mergeTo 34 = .ok (.aload_n 0, 1) := by decide +kernel
theorem dX1_mergeTo_35 : decode cX1_mergeTo 35 = .ok (.getfield 20, 3) := by decide +kernel
theorem dX1_mergeTo_38 : decode cX1_mergeTo 38 = .ok (.iload_n 3, 1) := by decide +kernel
theorem dX1_mergeTo_39 : decode cX1_mergeTo 39 = .ok (.iconst (-1), 1) := by decide +kernel
theorem dX1_mergeTo_40 : decode cX1_mergeTo 40 = .ok (.invokevirtual 57, 3) := by decide +kernel
theorem dX1_mergeTo_43 : decode cX1_mergeTo 43 = .ok (.invokevirtual 61, 3) := by decide +kernel
theorem dX1_mergeTo_46 : decode cX1_mergeTo 46 = .ok (.iload_n 2, 1) := by decide +kernel
theorem dX1_mergeTo_47 : decode cX1_mergeTo 47 = .ok (.aload_n 0, 1) := by decide +kernel
theorem dX1_mergeTo_48 : decode cX1_mergeTo 48 = .ok (.aload_n 1, 1) := by decide +kernel
theorem dX1_mergeTo_49 : decode cX1_mergeTo 49 = .ok (.invokevirtual 65, 3) := by decide +kernel
theorem dX1_mergeTo_52 : decode cX1_mergeTo 52 = .ok (.iadd, 1) := by decide +kernel
theorem dX1_mergeTo_53 : decode cX1_mergeTo 53 = .ok (.istore_n 2, 1) := by decide +kernel
theorem dX1_mergeTo_54 : decode cX1_mergeTo 54 = .ok (.aload_n 1, 1) := by decide +kernel
theorem dX1_mergeTo_55 : decode cX1_mergeTo 55 = .ok (.aload_n 0, 1) := by decide +kernel
theorem dX1_mergeTo_56 : decode cX1_mergeTo 56 = .ok (.getfield 26, 3) := by decide +kernel
theorem dX1_mergeTo_59 : decode cX1_mergeTo 59 = .ok (.iload_n 3, 1) := by decide +kernel
theorem dX1_mergeTo_60 : decode cX1_mergeTo 60 = .ok (.invokevirtual 69, 3) := by decide +kernel
theorem dX1_mergeTo_63 : decode cX1_mergeTo 63 = .ok (.invokevirtual 73, 3) := by decide +kernel
theorem dX1_mergeTo_66 : decode cX1_mergeTo 66 = .ok (.pop, 1) := by decide +kernel
theorem dX1_mergeTo_67 : decode cX1_mergeTo 67 = .ok (.aload_n 0, 1) := by decide +kernel
theorem dX1_mergeTo_68 : decode cX1_mergeTo 68 = .ok (.invokevirtual 76, 3) := by decide +kernel
theorem dX1_mergeTo_71 : decode cX1_mergeTo 71 = .ok (.iinc 3 1, 3) := by decide +kernel
theorem dX1_mergeTo_74 : decode cX1_mergeTo 74 = .ok (.goto (-70), 3) := by decide +kernel
theorem dX1_mergeTo_77 : decode cX1_mergeTo 77 = .ok (.aload_n 0, 1) := by decide +kernel
theorem dX1_mergeTo_78 : decode cX1_mergeTo 78 = .ok (.aload_n 0, 1) := by decide +kernel
theorem dX1_mergeTo_79 : decode cX1_mergeTo 79 = .ok (.getfield 26, 3) := by decide +kernel
theorem dX1_mergeTo_82 : decode cX1_mergeTo 82 = .ok (.invokevirtual 49, 3) := by decide +kernel
theorem dX1_mergeTo_85 : decode cX1_mergeTo 85 = .ok (.aload_n 0, 1) := by decide +kernel
theorem dX1_mergeTo_86 : decode cX1_mergeTo 86 = .ok (.getfield 30, 3) := by decide +kernel
theorem dX1_mergeTo_89 : decode cX1_mergeTo 89 = .ok (.invokevirtual 49, 3) := by decide +kernel
theorem dX1_mergeTo_92 : decode cX1_mergeTo 92 = .ok (.aload_n 0, 1) := by decide +kernel
theorem dX1_mergeTo_93 : decode cX1_mergeTo 93 = .ok (.getfield 33, 3) := by decide +kernel
theorem dX1_mergeTo_96 : decode cX1_mergeTo 96 = .ok (.invokevirtual 49, 3) := by decide +kernel
theorem dX1_mergeTo_99 : decode cX1_mergeTo 99 = .ok (.invokevirtual 61, 3) := by decide +kernel
theorem dX1_mergeTo_102 : decode cX1_mergeTo 102 = .ok (.iload_n 2, 1) := by decide +kernel
theorem dX1_mergeTo_103 : decode cX1_mergeTo 103 = .ok (.aload_n 0, 1) := by decide +kernel
theorem dX1_mergeTo_104 : decode cX1_mergeTo 104 = .ok (.aload_n 1, 1) := by decide +kernel
theorem dX1_mergeTo_105 : decode cX1_mergeTo 105 = .ok (.invokevirtual 65, 3) := by decide +kernel
theorem dX1_mergeTo_108 : decode cX1_mergeTo 108 = .ok (.iadd, 1) := by decide +kernel
theorem dX1_mergeTo_109 : decode cX1_mergeTo 109 = .ok (.ireturn, 1) := by decide +kernel
