set_option maxRecDepth 20000 in
theorem ggX1_isStable_X2_at : GoodIn wsX1_isStable wsX2_at := goodIn_r _ [7, 8, 9, 15, 16] (by decide +kernel) (by decide +kernel)
set_option maxRecDepth 20000 in
theorem gX1_isStable_X2_at : GoodIn wsX1_isStable (wsV RX1 57 RX2 yX2_at wsX2_at) := goodIn_app (goodIn_of _ (by decide +kernel)) ggX1_isStable_X2_at
theorem dX1_isStable_0 : decode cX1_isStable 0 = .ok (.aload_n 0, 1) := by decide +kernel
theorem dX1_isStable_1 : decode cX1_isStable 1 = .ok (.getfield 14, 3) := by decide +kernel
theorem dX1_isStable_4 : decode cX1_isStable 4 = .ok (.iload_n 1, 1) := by decide +kernel
theorem dX1_isStable_5 : decode cX1_isStable 5 = .ok (.iconst (-1), 1) := by decide +kernel
theorem dX1_isStable_6 : decode cX1_isStable 6 = .ok (.invokevirtual 57, 3) := by decide +kernel
theorem dX1_isStable_9 : decode cX1_isStable 9 = .ok (.iconst (-1), 1) := by decide +kernel
theorem dX1_isStable_10 : decode cX1_isStable 10 = .ok (.if_icmp .eq 20, 3) := by decide +kernel
theorem dX1_isStable_13 : decode cX1_isStable 13 = .ok (.aload_n 0, 1) := by decide +kernel
theorem dX1_isStable_14 : decode cX1_isStable 14 = .ok (.getfield 20, 3) := by decide +kernel
theorem dX1_isStable_17 : decode cX1_isStable 17 = .ok (.iload_n 1, 1) := by decide +kernel
theorem dX1_isStable_18 : decode cX1_isStable 18 = .ok (.iconst (-1), 1) := by decide +kernel
theorem dX1_isStable_19 : decode cX1_isStable 19 = .ok (.invokevirtual 57, 3) := by decide +kernel
theorem dX1_isStable_22 : decode cX1_isStable 22 = .ok (.iconst (-1), 1) := by decide +kernel
theorem dX1_isStable_23 : decode cX1_isStable 23 = .ok (.if_icmp .eq 7, 3) := by decide +kernel
theorem dX1_isStable_26 : decode cX1_isStable 26 = .ok (.iconst 1, 1) := by decide +kernel
theorem dX1_isStable_27 : decode cX1_isStable 27 = .ok (.goto 4, 3) := by decide +kernel
theorem dX1_isStable_30 : decode cX1_isStable 30 = .ok (.iconst 0, 1) := by decide +kernel
theorem dX1_isStable_31 : decode cX1_isStable 31 = .ok (.ireturn, 1) := by decide +kernel
set_option maxRecDepth 20000 in
theorem ggX1_endStretches_X4_endBefore : GoodIn wsX1_endStretches wsX4_endBefore := goodIn_r _ [8, 9, 15, 16, 17] (by decide +kernel) (by decide +kernel)
set_option maxRecDepth 20000 in
theorem gX1_endStretches_X4_endBefore : GoodIn wsX1_endStretches (wsV RX1 79 RX4 yX4_endBefore wsX4_endBefore) := goodIn_app (goodIn_of _ (by decide +kernel)) ggX1_endStretches_X4_endBefore
theorem dX1_endStretches_0 : decode cX1_endStretches 0 = .ok (.aload_n 0, 1) := by decide +kernel
theorem dX1_endStretches_1 : decode cX1_endStretches 1 = .ok (.getfield 26, 3) := by decide +kernel
theorem dX1_endStretches_4 : decode cX1_endStretches 4 = .ok (.iload_n 1, 1) := by decide +kernel
theorem dX1_endStretches_5 : decode cX1_endStretches 5 = .ok (.invokevirtual 79, 3) := by decide +kernel
theorem dX1_endStretches_8 : decode cX1_endStretches 8 = .ok (.aload_n 0, 1) := by decide +kernel
theorem dX1_endStretches_9 : decode cX1_endStretches 9 = .ok (.getfield 30, 3) := by decide +kernel
theorem dX1_endStretches_12 : decode cX1_endStretches 12 = .ok (.iload_n 2, 1) := by decide +kernel
theorem dX1_endStretches_13 : decode cX1_endStretches 13 = .ok (.invokevirtual 79, 3) := by decide +kernel
theorem dX1_endStretches_16 : decode cX1_endStretches 16 = .ok (.aload_n 0, 1) := by decide +kernel
theorem dX1_endStretches_17 : decode cX1_endStretches 17 = .ok (.getfield 33, 3) := by decide +kernel
theorem dX1_endStretches_20 : decode cX1_endStretches 20 = .ok (.iload_n 3, 1) := by decide +kernel
theorem dX1_endStretches_21 : decode cX1_endStretches 21 = .ok (.invokevirtual 79, 3) := by decide +kernel
theorem dX1_endStretches_24 : decode cX1_endStretches 24 = .ok (.return_, 1) := by decide +kernel
set_option maxRecDepth 20000 in
theorem ggX1_goOnBehindStable_X4_goOnBehindStable : GoodIn wsX1_goOnBehindStable wsX4_goOnBehindStable := goodIn_r _ [8, 9, 10, 16, 17, 18] (by decide +kernel) (by decide +kernel)
set_option maxRecDepth 20000 in
theorem gX1_goOnBehindStable_X4_goOnBehindStable : GoodIn wsX1_goOnBehindStable (wsV RX1 82 RX4 yX4_goOnBehindStable wsX4_goOnBehindStable) := goodIn_app (goodIn_of _ (by decide +kernel)) ggX1_goOnBehindStable_X4_goOnBehindStable
theorem dX1_goOnBehindStable_0 : decode cX1_goOnBehindStable 0 = .ok (.aload_n 0, 1) := by decide +kernel
theorem dX1_goOnBehindStable_1 : decode cX1_goOnBehindStable 1 = .ok (.getfield 26, 3) := by decide +kernel
theorem dX1_goOnBehindStable_4 : decode cX1_goOnBehindStable 4 = .ok (.invokevirtual 82, 3) := by decide +kernel
theorem dX1_goOnBehindStable_7 : decode cX1_goOnBehindStable 7 = .ok (.aload_n 0, 1) := by decide +kernel
theorem dX1_goOnBehindStable_8 : decode cX1_goOnBehindStable 8 = .ok (.getfield 30, 3) := by decide +kernel
theorem dX1_goOnBehindStable_11 : decode cX1_goOnBehindStable 11 = .ok (.invokevirtual 82, 3) := by decide +kernel
theorem dX1_goOnBehindStable_14 : decode cX1_goOnBehindStable 14 = .ok (.aload_n 0, 1) := by decide +kernel
theorem dX1_goOnBehindStable_15 : decode cX1_goOnBehindStable 15 = .ok (.getfield 33, 3) := by decide +kernel
theorem dX1_goOnBehindStable_18 : decode cX1_goOnBehindStable 18 = .ok (.invokevirtual 82, 3) := by decide +kernel
theorem dX1_goOnBehindStable_21 : decode cX1_goOnBehindStable 21 = .ok (.return_, 1) := by decide +kernel
set_option maxRecDepth 20000 in
theorem ggX1_mergeStretch_X4_isSameAs : GoodIn wsX1_mergeStretch wsX4_isSameAs := goodIn_r _ [8, 9, 10, 11, 12, 13, 7, 14, 15, 16, 17, 18, 19, 20, 21, 22, 42, 43, 44, 45, 46] (by decide +kernel) (by decide +kernel)
set_option maxRecDepth 20000 in
theorem gX1_mergeStretch_X4_isSameAs : GoodIn wsX1_mergeStretch (wsV RX1 83 RX4 yX4_isSameAs wsX4_isSameAs) := goodIn_app (goodIn_of _ (by decide +kernel)) ggX1_mergeStretch_X4_isSameAs
set_option maxRecDepth 20000 in
theorem ggX1_mergeStretch_X4_addTo : GoodIn wsX1_mergeStretch wsX4_addTo := goodIn_r _ [26, 15, 10, 9, 27, 28, 29, 19, 30, 31, 17, 18, 20, 21, 22, 32, 33, 34, 35, 42, 43, 44, 45, 46] (by decide +kernel) (by decide +kernel)
set_option maxRecDepth 20000 in
theorem gX1_mergeStretch_X4_addTo : GoodIn wsX1_mergeStretch (wsV RX1 87 RX4 yX4_addTo wsX4_addTo) := goodIn_app (goodIn_of _ (by decide +kernel)) ggX1_mergeStretch_X4_addTo
set_option maxRecDepth 20000 in
theorem ggX1_mergeStretch_X2_add : GoodIn wsX1_mergeStretch wsX2_add := goodIn_r _ [35, 21, 22, 45, 46] (by decide +kernel) (by decide +kernel)
set_option maxRecDepth 20000 in
theorem gX1_mergeStretch_X2_add : GoodIn wsX1_mergeStretch (wsV RX1 73 RX2 yX2_add wsX2_add) := goodIn_app (goodIn_of _ (by decide +kernel)) ggX1_mergeStretch_X2_add
theorem dX1_mergeStretch_0 : decode cX1_mergeStretch 0 = .ok (.aload_n 0, 1) := by decide +kernel
theorem dX1_mergeStretch_1 : decode cX1_mergeStretch 1 = .ok (.getfield 30, 3) := by decide +kernel
theorem dX1_mergeStretch_4 : decode cX1_mergeStretch 4 = .ok (.aload_n 0, 1) := by decide +kernel
theorem dX1_mergeStretch_5 : decode cX1_mergeStretch 5 = .ok (.getfield 33, 3) := by decide +kernel
theorem dX1_mergeStretch_8 : decode cX1_mergeStretch 8 = .ok (.invokevirtual 83, 3) := by decide +kernel
theorem dX1_mergeStretch_11 : decode cX1_mergeStretch 11 = .ok (.ifCond .ne 17, 3) := by decide +kernel
theorem dX1_mergeStretch_14 : decode cX1_mergeStretch 14 = .ok (.aload_n 0, 1) := by decide +kernel
theorem dX1_mergeStretch_15 : decode cX1_mergeStretch 15 = .ok (.getfield 33, 3) := by decide +kernel
theorem dX1_mergeStretch_18 : decode cX1_mergeStretch 18 = .ok (.aload_n 0, 1) := by decide +kernel
theorem dX1_mergeStretch_19 : decode cX1_mergeStretch 19 = .ok (.getfield 26, 3) := by decide +kernel
theorem dX1_mergeStretch_22 : decode cX1_mergeStretch 22 = .ok (.invokevirtual 83, 3) := by decide +kernel
theorem dX1_mergeStretch_25 : decode cX1_mergeStretch 25 = .ok (.ifCond .eq 13, 3) := by decide +kernel
theorem dX1_mergeStretch_28 : decode cX1_mergeStretch 28 = .ok (.aload_n 0, 1) := by decide +kernel
theorem dX1_mergeStretch_29 : decode cX1_mergeStretch 29 = .ok (.getfield 30, 3) := by decide +kernel
theorem dX1_mergeStretch_32 : decode cX1_mergeStretch 32 = .ok (.aload_n 1, 1) := by decide +kernel
theorem dX1_mergeStretch_33 : decode cX1_mergeStretch 33 = .ok (.invokevirtual 87, 3) := by decide +kernel
theorem dX1_mergeStretch_36 : decode cX1_mergeStretch 36 = .ok (.iconst 0, 1) := by decide +kernel
theorem dX1_mergeStretch_37 : decode cX1_mergeStretch 37 = .ok (.ireturn, 1) := by decide +kernel
theorem dX1_mergeStretch_38 : decode cX1_mergeStretch 38 = .ok (.aload_n 0, 1) := by decide +kernel
theorem dX1_mergeStretch_39 : decode cX1_mergeStretch 39 = .ok (.getfield 30, 3) := by decide +kernel
theorem dX1_mergeStretch_42 : decode cX1_mergeStretch 42 = .ok (.aload_n 0, 1) := by decide +kernel
theorem dX1_mergeStretch_43 : decode cX1_mergeStretch 43 = .ok (.getfield 26, 3) := by decide +kernel
theorem dX1_mergeStretch_46 : decode cX1_mergeStretch 46 = .ok (.invokevirtual 83, 3) := by decide +kernel
theorem dX1_mergeStretch_49 : decode cX1_mergeStretch 49 = .ok (.ifCond .eq 13, 3) := by decide +kernel
theorem dX1_mergeStretch_52 : decode cX1_mergeStretch 52 = .ok (.aload_n 0, 1) := by decide +kernel
theorem dX1_mergeStretch_53 : decode cX1_mergeStretch 53 = .ok (.getfield 33, 3) := by decide +kernel
theorem dX1_mergeStretch_56 : decode cX1_mergeStretch 56 = .ok (.aload_n 1, 1) := by decide +kernel
theorem dX1_mergeStretch_57 : decode cX1_mergeStretch 57 = .ok (.invokevirtual 87, 3) := by decide +kernel
theorem dX1_mergeStretch_60 : decode cX1_mergeStretch 60 = .ok (.iconst 0, 1) := by decide +kernel
theorem dX1_mergeStretch_61 : decode cX1_mergeStretch 61 = .ok (.ireturn, 1) := by decide +kernel
theorem dX1_mergeStretch_62 : decode cX1_mergeStretch 62 = .ok (.aload_n 1, 1) := by decide +kernel
theorem dX1_mergeStretch_63 : decode cX1_mergeStretch 63 = .ok (.iconst (-1), 1) := by decide +kernel
theorem dX1_mergeStretch_64 : decode cX1_mergeStretch 64 = .ok (.invokevirtual 73, 3) := by decide +kernel
theorem dX1_mergeStretch_67 : decode cX1_mergeStretch 67 = .ok (.pop, 1) := by decide +kernel
theorem dX1_mergeStretch_68 : decode cX1_mergeStretch 68 = .ok (.aload_n 0, 1) := by decide +kernel
theorem dX1_mergeStretch_69 : decode cX1_mergeStretch 69 = .ok (.getfield 30, 3) := by decide +kernel
theorem dX1_mergeStretch_72 : decode cX1_mergeStretch 72 = .ok (.aload_n 1, 1) := by decide +kernel
theorem dX1_mergeStretch_73 : decode cX1_mergeStretch 73 = .ok (.invokevirtual 87, 3) := by decide +kernel
theorem dX1_mergeStretch_76 : decode cX1_mergeStretch 76 = .ok (.aload_n 1, 1) := by decide +kernel
theorem dX1_mergeStretch_77 : decode cX1_mergeStretch 77 = .ok (.bipush (-2), 2) := by decide +kernel
theorem dX1_mergeStretch_79 : decode cX1_mergeStretch 79 = .ok (.invokevirtual 73, 3) := by decide +kernel
theorem dX1_mergeStretch_82 : decode cX1_mergeStretch 82 = .ok (.pop, 1) := by decide +kernel
theorem dX1_mergeStretch_83 : decode cX1_mergeStretch 83 = .ok (.aload_n 0, 1) := by decide +kernel
theorem dX1_mergeStretch_84 : decode cX1_mergeStretch 84 = .ok (.getfield 33, 3) := by decide +kernel
theorem dX1_mergeStretch_87 : decode cX1_mergeStretch 87 = .ok (.aload_n 1, 1) := by decide +kernel
theorem dX1_mergeStretch_88 : decode cX1_mergeStretch 88 = .ok (.invokevirtual 87, 3) := by decide +kernel
theorem dX1_mergeStretch_91 : decode cX1_mergeStretch 91 = .ok (.aload_n 1, 1) := by decide +kernel
theorem dX1_mergeStretch_92 : decode cX1_mergeStretch 92 = .ok (.bipush (-3), 2) := by decide +kernel
theorem dX1_mergeStretch_94 : decode cX1_mergeStretch 94 = .ok (.invokevirtual 73, 3) := by decide +kernel
theorem dX1_mergeStretch_97 : decode cX1_mergeStretch 97 = .ok (.pop, 1) := by decide +kernel
theorem dX1_mergeStretch_98 : decode cX1_mergeStretch 98 = .ok (.iconst 1, 1) := by decide +kernel
theorem dX1_mergeStretch_99 : decode cX1_mergeStretch 99 = .ok (.ireturn, 1) := by decide +kernel
theorem dX2_init_0 : decode cX2_init 0 = .ok (.aload_n 0, 1) := by decide +kernel
theorem dX2_init_1 : decode cX2_init 1 = .ok (.invokespecial 3, 3) := by decide +kernel
theorem dX2_init_4 : decode cX2_init 4 = .ok (.aload_n 0, 1) := by decide +kernel
theorem dX2_init_5 : decode cX2_init 5 = .ok (.iload_n 1, 1) := by decide +kernel
theorem dX2_init_6 : decode cX2_init 6 = .ok (.newarray .int, 2) := by decide +kernel
theorem dX2_init_8 : decode cX2_init 8 = .ok (.putfield 9, 3) := by decide +kernel
theorem dX2_init_11 : decode cX2_init 11 = .ok (.aload_n 0, 1) := by decide +kernel
theorem dX2_init_12 : decode cX2_init 12 = .ok (.iconst 0, 1) := by decide +kernel
theorem dX2_init_13 : decode cX2_init 13 = .ok (.putfield 15, 3) := by decide +kernel
theorem dX2_init_16 : decode cX2_init 16 = .ok (.return_, 1) := by decide +kernel
theorem dX2_empty_0 : decode cX2_empty 0 = .ok (.aload_n 0, 1) := by decide +kernel
theorem dX2_empty_1 : decode cX2_empty 1 = .ok (.iconst 0, 1) := by decide +kernel
theorem dX2_empty_2 : decode cX2_empty 2 = .ok (.putfield 15, 3) := by decide +kernel
theorem dX2_empty_5 : decode cX2_empty 5 = .ok (.return_, 1) := by decide +kernel
theorem dX2_add_0 : decode cX2_add 0 = .ok (.aload_n 0, 1) := by decide +kernel
theorem dX2_add_1 : decode cX2_add 1 = .ok (.getfield 15, 3) := by decide +kernel
theorem dX2_add_4 : decode cX2_add 4 = .ok (.aload_n 0, 1) := by decide +kernel
theorem dX2_add_5 : decode cX2_add 5 = .ok (.getfield 9, 3) := by decide +kernel
theorem dX2_add_8 : decode cX2_add 8 = .ok (.arraylength, 1) := by decide +kernel
theorem dX2_add_9 : decode cX2_add 9 = .ok (.if_icmp .lt 5, 3) := by decide +kernel
theorem dX2_add_12 : decode cX2_add 12 = .ok (.iconst 0, 1) := by decide +kernel
theorem dX2_add_13 : decode cX2_add 13 = .ok (.ireturn, 1) := by decide +kernel
theorem dX2_add_14 : decode cX2_add 14 = .ok (.aload_n 0, 1) := by decide +kernel
theorem dX2_add_15 : decode cX2_add 15 = .ok (.getfield 9, 3) := by decide +kernel
theorem dX2_add_18 : decode cX2_add 18 = .ok (.aload_n 0, 1) := by decide +kernel
theorem dX2_add_19 : decode cX2_add 19 = .ok (.getfield 15, 3) := by decide +kernel
theorem dX2_add_22 : decode cX2_add 22 = .ok (.iload_n 1, 1) := by decide +kernel
theorem dX2_add_23 : decode cX2_add 23 = .ok (.iastore, 1) := by decide +kernel
theorem dX2_add_24 : decode cX2_add 24 = .ok (.aload_n 0, 1) := by decide +kernel
theorem dX2_add_25 : decode cX2_add 25 = .ok (.dup, 1) := by decide +kernel
theorem dX2_add_26 : decode cX2_add 26 = .ok (.getfield 15, 3) := by decide +kernel
theorem dX2_add_29 : decode cX2_add 29 = .ok (.iconst 1, 1) := by decide +kernel
theorem dX2_add_30 : decode cX2_add 30 = .ok (.iadd, 1) := by decide +kernel
theorem dX2_add_31 : decode cX2_add 31 = .ok (.putfield 15, 3) := by decide +kernel
theorem dX2_add_34 : decode cX2_add 34 = .ok (.iconst 1, 1) := by decide +kernel
theorem dX2_add_35 : decode cX2_add 35 = .ok (.ireturn, 1) := by decide +kernel
set_option maxRecDepth 20000 in
theorem ggX2_addAll_X2_at : GoodIn wsX2_addAll wsX2_at := goodIn_r _ [5, 6, 7, 12, 13] (by decide +kernel) (by decide +kernel)
set_option maxRecDepth 20000 in
theorem gX2_addAll_X2_at : GoodIn wsX2_addAll (wsV RX2 19 RX2 yX2_at wsX2_at) := goodIn_app (goodIn_of _ (by decide +kernel)) ggX2_addAll_X2_at
set_option maxRecDepth 20000 in
theorem ggX2_addAll_X2_add : GoodIn wsX2_addAll wsX2_add := goodIn_r _ [11, 6, 7, 12, 13] (by decide +kernel) (by decide +kernel)
set_option maxRecDepth 20000 in
theorem gX2_addAll_X2_add : GoodIn wsX2_addAll (wsV RX2 23 RX2 yX2_add wsX2_add) := goodIn_app (goodIn_of _ (by decide +kernel)) ggX2_addAll_X2_add
theorem dX2_addAll_0 : decode cX2_addAll 0 = .ok (.iload_n 2, 1) := by decide +kernel
theorem dX2_addAll_1 : decode cX2_addAll 1 = .ok (.istore 4, 2) := by decide +kernel
theorem dX2_addAll_3 : decode cX2_addAll 3 = .ok (.iload 4, 2) := by decide +kernel
theorem dX2_addAll_5 : decode cX2_addAll 5 = .ok (.iload_n 3, 1) := by decide +kernel
theorem dX2_addAll_6 : decode cX2_addAll 6 = .ok (.if_icmp .ge 21, 3) := by decide +kernel
theorem dX2_addAll_9 : decode cX2_addAll 9 = .ok (.aload_n 0, 1) := by decide +kernel
theorem dX2_addAll_10 : decode cX2_addAll 10 = .ok (.aload_n 1, 1) := by decide +kernel
theorem dX2_addAll_11 : decode cX2_addAll 11 = .ok (.iload 4, 2) := by decide +kernel
theorem dX2_addAll_13 : decode cX2_addAll 13 = .ok (.iconst (-1), 1) := by decide +kernel
theorem dX2_addAll_14 : decode cX2_addAll 14 = .ok (.invokevirtual 19, 3) := by decide +kernel
theorem dX2_addAll_17 : decode cX2_addAll 17 = .ok (.invokevirtual 23, 3) := by decide +kernel
theorem dX2_addAll_20 : decode cX2_addAll 20 = .ok (.pop, 1) := by decide +kernel
theorem dX2_addAll_21 : decode cX2_addAll 21 = .ok (.iinc 4 1, 3) := by decide +kernel
theorem dX2_addAll_24 : decode cX2_addAll 24 = .ok (.goto (-21), 3) := by decide +kernel
theorem dX2_addAll_27 : decode cX2_addAll 27 = .ok (.return_, 1) := by decide +kernel
theorem dX2_at_0 : decode cX2_at 0 = .ok (.iload_n 1, 1) := by decide +kernel
theorem dX2_at_1 : decode cX2_at 1 = .ok (.ifCond .lt 20, 3) := by decide +kernel
theorem dX2_at_4 : decode cX2_at 4 = .ok (.iload_n 1, 1) := by decide +kernel
theorem dX2_at_5 : decode cX2_at 5 = .ok (.aload_n 0, 1) := by decide +kernel
theorem dX2_at_6 : decode cX2_at 6 = .ok (.getfield 15, 3) := by decide +kernel
theorem dX2_at_9 : decode cX2_at 9 = .ok (.if_icmp .ge 12, 3) := by decide +kernel
theorem dX2_at_12 : decode cX2_at 12 = .ok (.aload_n 0, 1) := by decide +kernel
theorem dX2_at_13 : decode cX2_at 13 = .ok (.getfield 9, 3) := by decide +kernel
theorem dX2_at_16 : decode cX2_at 16 = .ok (.iload_n 1, 1) := by decide +kernel
theorem dX2_at_17 : decode cX2_at 17 = .ok (.iaload, 1) := by decide +kernel
theorem dX2_at_18 : decode cX2_at 18 = .ok (.goto 4, 3) := by decide +kernel
theorem dX2_at_21 : decode cX2_at 21 = .ok (.iload_n 2, 1) := by decide +kernel
theorem dX2_at_22 : decode cX2_at 22 = .ok (.ireturn, 1) := by decide +kernel
theorem dX3_init_0 : decode cX3_init 0 = .ok (.aload_n 0, 1) := by decide +kernel
theorem dX3_init_1 : decode cX3_init 1 = .ok (.invokespecial 3, 3) := by decide +kernel
theorem dX3_init_4 : decode cX3_init 4 = .ok (.aload_n 0, 1) := by decide +kernel
theorem dX3_init_5 : decode cX3_init 5 = .ok (.bipush 60, 2) := by decide +kernel
theorem dX3_init_7 : decode cX3_init 7 = .ok (.newarray .int, 2) := by decide +kernel
theorem dX3_init_9 : decode cX3_init 9 = .ok (.putfield 9, 3) := by decide +kernel
theorem dX3_init_12 : decode cX3_init 12 = .ok (.aload_n 0, 1) := by decide +kernel
theorem dX3_init_13 : decode cX3_init 13 = .ok (.bipush 60, 2) := by decide +kernel
theorem dX3_init_15 : decode cX3_init 15 = .ok (.newarray .int, 2) := by decide +kernel
theorem dX3_init_17 : decode cX3_init 17 = .ok (.putfield 15, 3) := by decide +kernel
theorem dX3_init_20 : decode cX3_init 20 = .ok (.aload_n 0, 1) := by decide +kernel
theorem dX3_init_21 : decode cX3_init 21 = .ok (.bipush 60, 2) := by decide +kernel
theorem dX3_init_23 : decode cX3_init 23 = .ok (.newarray .int, 2) := by decide +kernel
theorem dX3_init_25 : decode cX3_init 25 = .ok (.putfield 18, 3) := by decide +kernel
theorem dX3_init_28 : decode cX3_init 28 = .ok (.aload_n 0, 1) := by decide +kernel
theorem dX3_init_29 : decode cX3_init 29 = .ok (.iconst 0, 1) := by decide +kernel
theorem dX3_init_30 : decode cX3_init 30 = .ok (.putfield 21, 3) := by decide +kernel
theorem dX3_init_33 : decode cX3_init 33 = .ok (.return_, 1) := by decide +kernel
theorem dX3_empty_0 : decode cX3_empty 0 = .ok (.aload_n 0, 1) := by decide +kernel
theorem dX3_empty_1 : decode cX3_empty 1 = .ok (.iconst 0, 1) := by decide +kernel
theorem dX3_empty_2 : decode cX3_empty 2 = .ok (.putfield 21, 3) := by decide +kernel
theorem dX3_empty_5 : decode cX3_empty 5 = .ok (.return_, 1) := by decide +kernel
theorem dX3_add_0 : decode cX3_add 0 = .ok (.aload_n 0, 1) := by decide +kernel
theorem dX3_add_1 : decode cX3_add 1 = .ok (.getfield 21, 3) := by decide +kernel
theorem dX3_add_4 : decode cX3_add 4 = .ok (.bipush 60, 2) := by decide +kernel
theorem dX3_add_6 : decode cX3_add 6 = .ok (.if_icmp .lt 5, 3) := by decide +kernel
theorem dX3_add_9 : decode cX3_add 9 = .ok (.iconst 0, 1) := by decide +kernel
theorem dX3_add_10 : decode cX3_add 10 = .ok (.ireturn, 1) := by decide +kernel
theorem dX3_add_11 : decode cX3_add 11 = .ok (.aload_n 0, 1) := by decide +kernel
theorem dX3_add_12 : decode cX3_add 12 = .ok (.getfield 9, 3) := by decide +kernel
theorem dX3_add_15 : decode cX3_add 15 = .ok (.aload_n 0, 1) := by decide +kernel
theorem dX3_add_16 : decode cX3_add 16 = .ok (.getfield 21, 3) := by decide +kernel
theorem dX3_add_19 : decode cX3_add 19 = .ok (.iload_n 1, 1) := by decide +kernel
theorem dX3_add_20 : decode cX3_add 20 = .ok (.iastore, 1) := by decide +kernel
theorem dX3_add_21 : decode cX3_add 21 = .ok (.aload_n 0, 1) := by decide +kernel
theorem dX3_add_22 : decode cX3_add 22 = .ok (.getfield 15, 3) := by decide +kernel
theorem dX3_add_25 : decode cX3_add 25 = .ok (.aload_n 0, 1) := by decide +kernel
theorem dX3_add_26 : decode cX3_add 26 = .ok (.getfield 21, 3) := by decide +kernel
theorem dX3_add_29 : decode cX3_add 29 = .ok (.iload_n 2, 1) := by decide +kernel
theorem dX3_add_30 : decode cX3_add 30 = .ok (.iastore, 1) := by decide +kernel
theorem dX3_add_31 : decode cX3_add 31 = .ok (.aload_n 0, 1) := by decide +kernel
theorem dX3_add_32 : decode cX3_add 32 = .ok (.getfield 18, 3) := by decide +kernel
theorem dX3_add_35 : decode cX3_add 35 = .ok (.aload_n 0, 1) := by decide +kernel
theorem dX3_add_36 : decode cX3_add 36 = .ok (.getfield 21, 3) := by decide +kernel
theorem dX3_add_39 : decode cX3_add 39 = .ok (.iload_n 3, 1) := by decide +kernel
theorem dX3_add_40 : decode cX3_add 40 = .ok (.iastore, 1) := by decide +kernel
theorem dX3_add_41 : decode cX3_add 41 = .ok (.aload_n 0, 1) := by decide +kernel
theorem dX3_add_42 : decode cX3_add 42 = .ok (.dup, 1) := by decide +kernel
theorem dX3_add_43 : decode cX3_add 43 = .ok (.getfield 21, 3) := by decide +kernel
theorem dX3_add_46 : decode cX3_add 46 = .ok (.iconst 1, 1) := by decide +kernel
theorem dX3_add_47 : decode cX3_add 47 = .ok (.iadd, 1) := by decide +kernel
theorem dX3_add_48 : decode cX3_add 48 = .ok (.putfield 21, 3) := by decide +kernel
theorem dX3_add_51 : decode cX3_add 51 = .ok (.iconst 1, 1) := by decide +kernel
theorem dX3_add_52 : decode cX3_add 52 = .ok (.ireturn, 1) := by decide +kernel
theorem dX3_has_0 : decode cX3_has 0 = .ok (.iload_n 1, 1) := by decide +kernel
theorem dX3_has_1 : decode cX3_has 1 = .ok (.ifCond .lt 15, 3) := by decide +kernel
theorem dX3_has_4 : decode cX3_has 4 = .ok (.iload_n 1, 1) := by decide +kernel
theorem dX3_has_5 : decode cX3_has 5 = .ok (.aload_n 0, 1) := by decide +kernel
theorem dX3_has_6 : decode cX3_has 6 = .ok (.getfield 21, 3) := by decide +kernel
theorem dX3_has_9 : decode cX3_has 9 = .ok (.if_icmp .ge 7, 3) := by decide +kernel
theorem dX3_has_12 : decode cX3_has 12 = .ok (.iconst 1, 1) := by decide +kernel
theorem dX3_has_13 : decode cX3_has 13 = .ok (.goto 4, 3) := by decide +kernel
theorem dX3_has_16 : decode cX3_has 16 = .ok (.iconst 0, 1) := by decide +kernel
theorem dX3_has_17 : decode cX3_has 17 = .ok (.ireturn, 1) := by decide +kernel
set_option maxRecDepth 20000 in
theorem ggX3_placeOf_X3_has : GoodIn wsX3_placeOf wsX3_has := goodIn_r _ [6, 7, 8, 9, 10, 11] (by decide +kernel) (by decide +kernel)
set_option maxRecDepth 20000 in
theorem gX3_placeOf_X3_has : GoodIn wsX3_placeOf (wsV RX3 25 RX3 yX3_has wsX3_has) := goodIn_app (goodIn_of _ (by decide +kernel)) ggX3_placeOf_X3_has
theorem dX3_placeOf_0 : decode cX3_placeOf 0 = .ok (.aload_n 0, 1) := by decide +kernel
theorem dX3_placeOf_1 : decode cX3_placeOf 1 = .ok (.iload_n 1, 1) := by decide +kernel
theorem dX3_placeOf_2 : decode cX3_placeOf 2 = .ok (.invokevirtual 25, 3) := by decide +kernel
theorem dX3_placeOf_5 : decode cX3_placeOf 5 = .ok (.ifCond .eq 12, 3) := by decide +kernel
theorem dX3_placeOf_8 : decode cX3_placeOf 8 = .ok (.aload_n 0, 1) := by decide +kernel
theorem dX3_placeOf_9 : decode cX3_placeOf 9 = .ok (.getfield 15, 3) := by decide +kernel
theorem dX3_placeOf_12 : decode cX3_placeOf 12 = .ok (.iload_n 1, 1) := by decide +kernel
theorem dX3_placeOf_13 : decode cX3_placeOf 13 = .ok (.iaload, 1) := by decide +kernel
theorem dX3_placeOf_14 : decode cX3_placeOf 14 = .ok (.goto 4, 3) := by decide +kernel
theorem dX3_placeOf_17 : decode cX3_placeOf 17 = .ok (.iconst 0, 1) := by decide +kernel
theorem dX3_placeOf_18 : decode cX3_placeOf 18 = .ok (.ireturn, 1) := by decide +kernel
set_option maxRecDepth 20000 in
theorem ggX3_behind_X3_has : GoodIn wsX3_behind wsX3_has := goodIn_r _ [7, 8, 9, 10, 11, 12] (by decide +kernel) (by decide +kernel)
set_option maxRecDepth 20000 in
theorem gX3_behind_X3_has : GoodIn wsX3_behind (wsV RX3 25 RX3 yX3_has wsX3_has) := goodIn_app (goodIn_of _ (by decide +kernel)) ggX3_behind_X3_has
theorem dX3_behind_0 : decode cX3_behind 0 = .ok (.aload_n 0, 1) := by decide +kernel
theorem dX3_behind_1 : decode cX3_behind 1 = .ok (.iload_n 1, 1) := by decide +kernel
theorem dX3_behind_2 : decode cX3_behind 2 = .ok (.invokevirtual 25, 3) := by decide +kernel
theorem dX3_behind_5 : decode cX3_behind 5 = .ok (.ifCond .ne 5, 3) := by decide +kernel
theorem dX3_behind_8 : decode cX3_behind 8 = .ok (.iconst 0, 1) := by decide +kernel
theorem dX3_behind_9 : decode cX3_behind 9 = .ok (.ireturn, 1) := by decide +kernel
theorem dX3_behind_10 : decode cX3_behind 10 = .ok (.aload_n 0, 1) := by decide +kernel
theorem dX3_behind_11 : decode cX3_behind 11 = .ok (.getfield 9, 3) := by decide +kernel
theorem dX3_behind_14 : decode cX3_behind 14 = .ok (.iload_n 1, 1) := by decide +kernel
theorem dX3_behind_15 : decode cX3_behind 15 = .ok (.iaload, 1) := by decide +kernel
theorem dX3_behind_16 : decode cX3_behind 16 = .ok (.ifCond .ne 14, 3) := by decide +kernel
theorem dX3_behind_19 : decode cX3_behind 19 = .ok (.aload_n 0, 1) := by decide +kernel
theorem dX3_behind_20 : decode cX3_behind 20 = .ok (.getfield 15, 3) := by decide +kernel
theorem dX3_behind_23 : decode cX3_behind 23 = .ok (.iload_n 1, 1) := by decide +kernel
theorem dX3_behind_24 : decode cX3_behind 24 = .ok (.iaload, 1) := by decide +kernel
theorem dX3_behind_25 : decode cX3_behind 25 = .ok (.iconst 1, 1) := by decide +kernel
theorem dX3_behind_26 : decode cX3_behind 26 = .ok (.iadd, 1) := by decide +kernel
theorem dX3_behind_27 : decode cX3_behind 27 = .ok (.goto 9, 3) := by decide +kernel
theorem dX3_behind_30 : decode cX3_behind 30 = .ok (.aload_n 0, 1) := by decide +kernel
theorem dX3_behind_31 : decode cX3_behind 31 = .ok (.getfield 15, 3) := by decide +kernel
theorem dX3_behind_34 : decode cX3_behind 34 = .ok (.iload_n 1, 1) := by decide +kernel
theorem dX3_behind_35 : decode cX3_behind 35 = .ok (.iaload, 1) := by decide +kernel
theorem dX3_behind_36 : decode cX3_behind 36 = .ok (.ireturn, 1) := by decide +kernel
set_option maxRecDepth 20000 in
theorem ggX3_beginsHunk_X3_placeOf : GoodIn wsX3_beginsHunk wsX3_placeOf := goodIn_r _ [5, 6, 7, 8, 9, 4, 10, 11, 17, 18, 19, 20] (by decide +kernel) (by decide +kernel)
set_option maxRecDepth 20000 in
theorem gX3_beginsHunk_X3_placeOf : GoodIn wsX3_beginsHunk (wsV RX3 29 RX3 yX3_placeOf wsX3_placeOf) := goodIn_app (goodIn_of _ (by decide +kernel)) ggX3_beginsHunk_X3_placeOf
set_option maxRecDepth 20000 in
theorem ggX3_beginsHunk_X3_behind : GoodIn wsX3_beginsHunk wsX3_behind := goodIn_r _ [15, 16, 6, 7, 8, 9, 4, 10, 11, 17, 18, 19, 20] (by decide +kernel) (by decide +kernel)
set_option maxRecDepth 20000 in
theorem gX3_beginsHunk_X3_behind : GoodIn wsX3_beginsHunk (wsV RX3 33 RX3 yX3_behind wsX3_behind) := goodIn_app (goodIn_of _ (by decide +kernel)) ggX3_beginsHunk_X3_behind
theorem dX3_beginsHunk_0 : decode cX3_beginsHunk 0 = .ok (.iload_n 1, 1) := by decide +kernel
theorem dX3_beginsHunk_1 : decode cX3_beginsHunk 1 = .ok (.ifCond .eq 22, 3) := by decide +kernel
theorem dX3_beginsHunk_4 : decode cX3_beginsHunk 4 = .ok (.aload_n 0, 1) := by decide +kernel
theorem dX3_beginsHunk_5 : decode cX3_beginsHunk 5 = .ok (.iload_n 1, 1) := by decide +kernel
theorem dX3_beginsHunk_6 : decode cX3_beginsHunk 6 = .ok (.invokevirtual 29, 3) := by decide +kernel
theorem dX3_beginsHunk_9 : decode cX3_beginsHunk 9 = .ok (.aload_n 0, 1) := by decide +kernel
theorem dX3_beginsHunk_10 : decode cX3_beginsHunk 10 = .ok (.iload_n 1, 1) := by decide +kernel
theorem dX3_beginsHunk_11 : decode cX3_beginsHunk 11 = .ok (.iconst 1, 1) := by decide +kernel
theorem dX3_beginsHunk_12 : decode cX3_beginsHunk 12 = .ok (.isub, 1) := by decide +kernel
theorem dX3_beginsHunk_13 : decode cX3_beginsHunk 13 = .ok (.invokevirtual 33, 3) := by decide +kernel
theorem dX3_beginsHunk_16 : decode cX3_beginsHunk 16 = .ok (.isub, 1) := by decide +kernel
theorem dX3_beginsHunk_17 : decode cX3_beginsHunk 17 = .ok (.iconst 2, 1) := by decide +kernel
theorem dX3_beginsHunk_18 : decode cX3_beginsHunk 18 = .ok (.iload_n 2, 1) := by decide +kernel
theorem dX3_beginsHunk_19 : decode cX3_beginsHunk 19 = .ok (.imul, 1) := by decide +kernel
theorem dX3_beginsHunk_20 : decode cX3_beginsHunk 20 = .ok (.if_icmp .le 7, 3) := by decide +kernel
theorem dX3_beginsHunk_23 : decode cX3_beginsHunk 23 = .ok (.iconst 1, 1) := by decide +kernel
theorem dX3_beginsHunk_24 : decode cX3_beginsHunk 24 = .ok (.goto 4, 3) := by decide +kernel
theorem dX3_beginsHunk_27 : decode cX3_beginsHunk 27 = .ok (.iconst 0, 1) := by decide +kernel
theorem dX3_beginsHunk_28 : decode cX3_beginsHunk 28 = .ok (.ireturn, 1) := by decide +kernel
set_option maxRecDepth 20000 in
theorem ggX3_firstOfHunk_X3_beginsHunk : GoodIn wsX3_firstOfHunk wsX3_beginsHunk := goodIn_r _ [6, 7, 8, 9, 5, 10, 11, 12, 13, 14, 15, 1, 16, 17, 18, 19, 20, 21, 22, 23, 24] (by decide +kernel) (by decide +kernel)
set_option maxRecDepth 20000 in
theorem gX3_firstOfHunk_X3_beginsHunk : GoodIn wsX3_firstOfHunk (wsV RX3 36 RX3 yX3_beginsHunk wsX3_beginsHunk) := goodIn_app (goodIn_of _ (by decide +kernel)) ggX3_firstOfHunk_X3_beginsHunk
theorem dX3_firstOfHunk_0 : decode cX3_firstOfHunk 0 = .ok (.iconst (-1), 1) := by decide +kernel
theorem dX3_firstOfHunk_1 : decode cX3_firstOfHunk 1 = .ok (.istore_n 3, 1) := by decide +kernel
theorem dX3_firstOfHunk_2 : decode cX3_firstOfHunk 2 = .ok (.iconst 0, 1) := by decide +kernel
theorem dX3_firstOfHunk_3 : decode cX3_firstOfHunk 3 = .ok (.istore 4, 2) := by decide +kernel
theorem dX3_firstOfHunk_5 : decode cX3_firstOfHunk 5 = .ok (.iload 4, 2) := by decide +kernel
theorem dX3_firstOfHunk_7 : decode cX3_firstOfHunk 7 = .ok (.aload_n 0, 1) := by decide +kernel
theorem dX3_firstOfHunk_8 : decode cX3_firstOfHunk 8 = .ok (.getfield 21, 3) := by decide +kernel
theorem dX3_firstOfHunk_11 : decode cX3_firstOfHunk 11 = .ok (.if_icmp .ge 30, 3) := by decide +kernel
theorem dX3_firstOfHunk_14 : decode cX3_firstOfHunk 14 = .ok (.aload_n 0, 1) := by decide +kernel
theorem dX3_firstOfHunk_15 : decode cX3_firstOfHunk 15 = .ok (.iload 4, 2) := by decide +kernel
theorem dX3_firstOfHunk_17 : decode cX3_firstOfHunk 17 = .ok (.iload_n 2, 1) := by decide +kernel
theorem dX3_firstOfHunk_18 : decode cX3_firstOfHunk 18 = .ok (.invokevirtual 36, 3) := by decide +kernel
theorem dX3_firstOfHunk_21 : decode cX3_firstOfHunk 21 = .ok (.ifCond .eq 6, 3) := by decide +kernel
theorem dX3_firstOfHunk_24 : decode cX3_firstOfHunk 24 = .ok (.iinc 3 1, 3) := by decide +kernel
theorem dX3_firstOfHunk_27 : decode cX3_firstOfHunk 27 = .ok (.iload_n 3, 1) := by decide +kernel
theorem dX3_firstOfHunk_28 : decode cX3_firstOfHunk 28 = .ok (.iload_n 1, 1) := by decide +kernel
theorem dX3_firstOfHunk_29 : decode cX3_firstOfHunk 29 = .ok (.if_icmp .ne 6, 3) := by decide +kernel
theorem dX3_firstOfHunk_32 : decode cX3_firstOfHunk 32 = .ok (.iload 4, 2) := by decide +kernel
theorem dX3_firstOfHunk_34 : decode cX3_firstOfHunk 34 = .ok (.ireturn, 1) := by decide +kernel
theorem dX3_firstOfHunk_35 : decode cX3_firstOfHunk 35 = .ok (.iinc 4 1, 3) := by decide +kernel
theorem dX3_firstOfHunk_38 : decode cX3_firstOfHunk 38 = .ok (.goto (-33), 3) := by decide +kernel
theorem dX3_firstOfHunk_41 : decode cX3_firstOfHunk 41 = .ok (.aload_n 0, 1) := by decide +kernel
theorem dX3_firstOfHunk_42 : decode cX3_firstOfHunk 42 = .ok (.getfield 21, 3) := by decide +kernel
theorem dX3_firstOfHunk_45 : decode cX3_firstOfHunk 45 = .ok (.ireturn, 1) := by decide +kernel
set_option maxRecDepth 20000 in
theorem ggX3_lastOfHunk_X3_beginsHunk : GoodIn wsX3_lastOfHunk wsX3_beginsHunk := goodIn_r _ [6, 7, 8, 9, 5, 10, 11, 12, 13, 14, 15, 1, 16, 17, 18, 19, 20, 21, 22, 23, 24] (by decide +kernel) (by decide +kernel)
set_option maxRecDepth 20000 in
theorem gX3_lastOfHunk_X3_beginsHunk : GoodIn wsX3_lastOfHunk (wsV RX3 36 RX3 yX3_beginsHunk wsX3_beginsHunk) := goodIn_app (goodIn_of _ (by decide +kernel)) ggX3_lastOfHunk_X3_beginsHunk
theorem dX3_lastOfHunk_0 : decode cX3_lastOfHunk 0 = .ok (.iload_n 1, 1) := by decide +kernel
theorem dX3_lastOfHunk_1 : decode cX3_lastOfHunk 1 = .ok (.istore_n 3, 1) := by decide +kernel
theorem dX3_lastOfHunk_2 : decode cX3_lastOfHunk 2 = .ok (.iload_n 3, 1) := by decide +kernel
theorem dX3_lastOfHunk_3 : decode cX3_lastOfHunk 3 = .ok (.iconst 1, 1) := by decide +kernel
theorem dX3_lastOfHunk_4 : decode cX3_lastOfHunk 4 = .ok (.iadd, 1) := by decide +kernel
theorem dX3_lastOfHunk_5 : decode cX3_lastOfHunk 5 = .ok (.aload_n 0, 1) := by decide +kernel
theorem dX3_lastOfHunk_6 : decode cX3_lastOfHunk 6 = .ok (.getfield 21, 3) := by decide +kernel
theorem dX3_lastOfHunk_9 : decode cX3_lastOfHunk 9 = .ok (.if_icmp .ge 20, 3) := by decide +kernel
theorem dX3_lastOfHunk_12 : decode cX3_lastOfHunk 12 = .ok (.aload_n 0, 1) := by decide +kernel
theorem dX3_lastOfHunk_13 : decode cX3_lastOfHunk 13 = .ok (.iload_n 3, 1) := by decide +kernel
theorem dX3_lastOfHunk_14 : decode cX3_lastOfHunk 14 = .ok (.iconst 1, 1) := by decide +kernel
theorem dX3_lastOfHunk_15 : decode cX3_lastOfHunk 15 = .ok (.iadd, 1) := by decide +kernel
theorem dX3_lastOfHunk_16 : decode cX3_lastOfHunk 16 = .ok (.iload_n 2, 1) := by decide +kernel
theorem dX3_lastOfHunk_17 : decode cX3_lastOfHunk 17 = .ok (.invokevirtual 36, 3) := by decide +kernel
theorem dX3_lastOfHunk_20 : decode cX3_lastOfHunk 20 = .ok (.ifCond .ne 9, 3) := by decide +kernel
theorem dX3_lastOfHunk_23 : decode cX3_lastOfHunk 23 = .ok (.iinc 3 1, 3) := by decide +kernel
theorem dX3_lastOfHunk_26 : decode cX3_lastOfHunk 26 = .ok (.goto (-24), 3) := by decide +kernel
theorem dX3_lastOfHunk_29 : decode cX3_lastOfHunk 29 = .ok (.iload_n 3, 1) := by decide +kernel
theorem dX3_lastOfHunk_30 : decode cX3_lastOfHunk 30 = .ok (.ireturn, 1) := by decide +kernel
set_option maxRecDepth 20000 in
theorem ggX3_countKind_X3_has : GoodIn wsX3_countKind wsX3_has := goodIn_r _ [6, 7, 8, 9, 10, 11] (by decide +kernel) (by decide +kernel)
set_option maxRecDepth 20000 in
theorem gX3_countKind_X3_has : GoodIn wsX3_countKind (wsV RX3 25 RX3 yX3_has wsX3_has) := goodIn_app (goodIn_of _ (by decide +kernel)) ggX3_countKind_X3_has
theorem dX3_countKind_0 : decode cX3_countKind 0 = .ok (.iconst 0, 1) := by decide +kernel
theorem dX3_countKind_1 : decode cX3_countKind 1 = .ok (.istore 4, 2) := by decide +kernel
theorem dX3_countKind_3 : decode cX3_countKind 3 = .ok (.iload_n 2, 1) := by decide +kernel
theorem dX3_countKind_4 : decode cX3_countKind 4 = .ok (.istore 5, 2) := by decide +kernel
theorem dX3_countKind_6 : decode cX3_countKind 6 = .ok (.iload 5, 2) := by decide +kernel
theorem dX3_countKind_8 : decode cX3_countKind 8 = .ok (.iload_n 3, 1) := by decide +kernel
theorem dX3_countKind_9 : decode cX3_countKind 9 = .ok (.if_icmp .gt 32, 3) := by decide +kernel
theorem dX3_countKind_12 : decode cX3_countKind 12 = .ok (.aload_n 0, 1) := by decide +kernel
theorem dX3_countKind_13 : decode cX3_countKind 13 = .ok (.iload 5, 2) := by decide +kernel
theorem dX3_countKind_15 : decode cX3_countKind 15 = .ok (.invokevirtual 25, 3) := by decide +kernel
theorem dX3_countKind_18 : decode cX3_countKind 18 = .ok (.ifCond .eq 17, 3) := by decide +kernel
theorem dX3_countKind_21 : decode cX3_countKind 21 = .ok (.aload_n 0, 1) := by decide +kernel
theorem dX3_countKind_22 : decode cX3_countKind 22 = .ok (.getfield 9, 3) := by decide +kernel
theorem dX3_countKind_25 : decode cX3_countKind 25 = .ok (.iload 5, 2) := by decide +kernel
theorem dX3_countKind_27 : decode cX3_countKind 27 = .ok (.iaload, 1) := by decide +kernel
theorem dX3_countKind_28 : decode cX3_countKind 28 = .ok (.iload_n 1, 1) := by decide +kernel
theorem dX3_countKind_29 : decode cX3_countKind 29 = .ok (.if_icmp .ne 6, 3) := by decide +kernel
theorem dX3_countKind_32 : decode cX3_countKind 32 = .ok (.iinc 4 1, 3) := by decide +kernel
theorem dX3_countKind_35 : decode cX3_countKind 35 = .ok (.iinc 5 1, 3) := by decide +kernel
theorem dX3_countKind_38 : decode cX3_countKind 38 = .ok (.goto (-32), 3) := by decide +kernel
theorem dX3_countKind_41 : decode cX3_countKind 41 = .ok (.iload 4, 2) := by decide +kernel
theorem dX3_countKind_43 : decode cX3_countKind 43 = .ok (.ireturn, 1) := by decide +kernel
set_option maxRecDepth 20000 in
theorem ggX4_init_X2_init : GoodIn wsX4_init wsX2_init := goodIn_r _ [12, 13, 2, 3, 14, 15, 16, 17, 18] (by decide +kernel) (by decide +kernel)
set_option maxRecDepth 20000 in
theorem gX4_init_X2_init : GoodIn wsX4_init (wsX2_init) := ggX4_init_X2_init
theorem dX4_init_0 : decode cX4_init 0 = .ok (.aload_n 0, 1) := by decide +kernel
theorem dX4_init_1 : decode cX4_init 1 = .ok (.invokespecial 3, 3) := by decide +kernel
theorem dX4_init_4 : decode cX4_init 4 = .ok (.aload_n 0, 1) := by decide +kernel
theorem dX4_init_5 : decode cX4_init 5 = .ok (.new 9, 3) := by decide +kernel
theorem dX4_init_8 : decode cX4_init 8 = .ok (.dup, 1) := by decide +kernel
theorem dX4_init_9 : decode cX4_init 9 = .ok (.iconst 0, 1) := by decide +kernel
theorem dX4_init_10 : decode cX4_init 10 = .ok (.invokespecial 11, 3) := by decide +kernel
theorem dX4_init_13 : decode cX4_init 13 = .ok (.putfield 14, 3) := by decide +kernel
theorem dX4_init_16 : decode cX4_init 16 = .ok (.aload_n 0, 1) := by decide +kernel
theorem dX4_init_17 : decode cX4_init 17 = .ok (.iconst 0, 1) := by decide +kernel
theorem dX4_init_18 : decode cX4_init 18 = .ok (.putfield 20, 3) := by decide +kernel
theorem dX4_init_21 : decode cX4_init 21 = .ok (.aload_n 0, 1) := by decide +kernel
theorem dX4_init_22 : decode cX4_init 22 = .ok (.iconst 0, 1) := by decide +kernel
theorem dX4_init_23 : decode cX4_init 23 = .ok (.putfield 24, 3) := by decide +kernel
theorem dX4_init_26 : decode cX4_init 26 = .ok (.return_, 1) := by decide +kernel
theorem dX4_begin_0 : decode cX4_begin 0 = .ok (.aload_n 0, 1) := by decide +kernel
theorem dX4_begin_1 : decode cX4_begin 1 = .ok (.aload_n 1, 1) := by decide +kernel
theorem dX4_begin_2 : decode cX4_begin 2 = .ok (.putfield 14, 3) := by decide +kernel
theorem dX4_begin_5 : decode cX4_begin 5 = .ok (.aload_n 0, 1) := by decide +kernel
theorem dX4_begin_6 : decode cX4_begin 6 = .ok (.iconst 0, 1) := by decide +kernel
theorem dX4_begin_7 : decode cX4_begin 7 = .ok (.putfield 20, 3) := by decide +kernel
theorem dX4_begin_10 : decode cX4_begin 10 = .ok (.aload_n 0, 1) := by decide +kernel
theorem dX4_begin_11 : decode cX4_begin 11 = .ok (.iconst 0, 1) := by decide +kernel
theorem dX4_begin_12 : decode cX4_begin 12 = .ok (.putfield 24, 3) := by decide +kernel
theorem dX4_begin_15 : decode cX4_begin 15 = .ok (.return_, 1) := by decide +kernel
theorem dX4_endBefore_0 : decode cX4_endBefore 0 = .ok (.aload_n 0, 1) := by decide +kernel
theorem dX4_endBefore_1 : decode cX4_endBefore 1 = .ok (.iload_n 1, 1) := by decide +kernel
theorem dX4_endBefore_2 : decode cX4_endBefore 2 = .ok (.putfield 24, 3) := by decide +kernel
theorem dX4_endBefore_5 : decode cX4_endBefore 5 = .ok (.return_, 1) := by decide +kernel
theorem dX4_goOnBehindStable_0 : decode cX4_goOnBehindStable 0 = .ok (.aload_n 0, 1) := by decide +kernel
theorem dX4_goOnBehindStable_1 : decode cX4_goOnBehindStable 1 = .ok (.aload_n 0, 1) := by decide +kernel
theorem dX4_goOnBehindStable_2 : decode cX4_goOnBehindStable 2 = .ok (.getfield 24, 3) := by decide +kernel
theorem dX4_goOnBehindStable_5 : decode cX4_goOnBehindStable 5 = .ok (.iconst 1, 1) := by decide +kernel
theorem dX4_goOnBehindStable_6 : decode cX4_goOnBehindStable 6 = .ok (.iadd, 1) := by decide +kernel
theorem dX4_goOnBehindStable_7 : decode cX4_goOnBehindStable 7 = .ok (.putfield 20, 3) := by decide +kernel
theorem dX4_goOnBehindStable_10 : decode cX4_goOnBehindStable 10 = .ok (.return_, 1) := by decide +kernel
theorem dX4_endOfRow_0 : decode cX4_endOfRow 0 = .ok (.aload_n 0, 1) := by decide +kernel
theorem dX4_endOfRow_1 : decode cX4_endOfRow 1 = .ok (.getfield 14, 3) := by decide +kernel
theorem dX4_endOfRow_4 : decode cX4_endOfRow 4 = .ok (.getfield 27, 3) := by decide +kernel
theorem dX4_endOfRow_7 : decode cX4_endOfRow 7 = .ok (.ireturn, 1) := by decide +kernel
set_option maxRecDepth 20000 in
theorem ggX4_symbolAt_X2_at : GoodIn wsX4_symbolAt wsX2_at := goodIn_r _ [6, 7, 8, 12, 13] (by decide +kernel) (by decide +kernel)
set_option maxRecDepth 20000 in
theorem gX4_symbolAt_X2_at : GoodIn wsX4_symbolAt (wsV RX4 30 RX2 yX2_at wsX2_at) := goodIn_app (goodIn_of _ (by decide +kernel)) ggX4_symbolAt_X2_at
theorem dX4_symbolAt_0 : decode cX4_symbolAt 0 = .ok (.aload_n 0, 1) := by decide +kernel
theorem dX4_symbolAt_1 : decode cX4_symbolAt 1 = .ok (.getfield 14, 3) := by decide +kernel
theorem dX4_symbolAt_4 : decode cX4_symbolAt 4 = .ok (.iload_n 1, 1) := by decide +kernel
theorem dX4_symbolAt_5 : decode cX4_symbolAt 5 = .ok (.iconst (-1), 1) := by decide +kernel
theorem dX4_symbolAt_6 : decode cX4_symbolAt 6 = .ok (.invokevirtual 30, 3) := by decide +kernel
theorem dX4_symbolAt_9 : decode cX4_symbolAt 9 = .ok (.ireturn, 1) := by decide +kernel
