set_option maxRecDepth 20000 in
theorem ggX5_merge_X2_empty : GoodIn wsX5_merge wsX2_empty := goodIn_r _ [9, 10, 129, 130] (by decide +kernel) (by decide +kernel)
set_option maxRecDepth 20000 in
theorem gX5_merge_X2_empty : GoodIn wsX5_merge (wsV RX5 75 RX2 yX2_empty wsX2_empty) := goodIn_app (goodIn_of _ (by decide +kernel)) ggX5_merge_X2_empty
set_option maxRecDepth 20000 in
theorem ggX5_merge_X1_begin : GoodIn wsX5_merge wsX1_begin := goodIn_r _ [15, 16, 17, 18, 19, 20, 21, 22, 23, 24, 25, 26, 27, 28, 29, 30, 31, 32, 33, 34, 35, 36, 37, 38, 39, 40, 41, 42, 43, 44, 45, 6, 7, 8, 9, 10, 46, 47, 48, 49, 50, 51, 52, 53, 54, 55, 56, 57, 58, 59, 60, 61, 62, 131, 132, 133, 134, 135, 136, 137, 138, 129, 130, 139, 140, 141] (by decide +kernel) (by decide +kernel)
set_option maxRecDepth 20000 in
theorem gX5_merge_X1_begin : GoodIn wsX5_merge (wsV RX5 144 RX1 yX1_begin wsX1_begin) := goodIn_app (goodIn_of _ (by decide +kernel)) ggX5_merge_X1_begin
set_option maxRecDepth 20000 in
theorem ggX5_merge_X1_mergeTo : GoodIn wsX5_merge wsX1_mergeTo := goodIn_r _ [66, 18, 16, 17, 19, 20, 67, 68, 69, 58, 70, 60, 71, 72, 73, 14, 74, 75, 76, 77, 8, 78, 10, 54, 79, 80, 81, 82, 83, 84, 85, 86, 62, 87, 88, 89, 90, 91, 92, 93, 94, 61, 95, 96, 97, 98, 99, 100, 101, 102, 103, 104, 105, 106, 107, 108, 109, 51, 52, 53, 110, 111, 112, 113, 114, 115, 116, 117, 118, 119, 131, 132, 133, 134, 135, 139, 140, 141, 129, 130] (by decide +kernel) (by decide +kernel)
set_option maxRecDepth 20000 in
theorem gX5_merge_X1_mergeTo : GoodIn wsX5_merge (wsV RX5 148 RX1 yX1_mergeTo wsX1_mergeTo) := goodIn_app (goodIn_of _ (by decide +kernel)) ggX5_merge_X1_mergeTo
theorem dX5_merge_0 : decode cX5_merge 0 = .ok (.aload_n 0, 1) := by decide +kernel
theorem dX5_merge_1 : decode cX5_merge 1 = .ok (.getfield 58, 3) := by decide +kernel
theorem dX5_merge_4 : decode cX5_merge 4 = .ok (.invokevirtual 75, 3) := by decide +kernel
theorem dX5_merge_7 : decode cX5_merge 7 = .ok (.aload_n 0, 1) := by decide +kernel
theorem dX5_merge_8 : decode cX5_merge 8 = .ok (.getfield 54, 3) := by decide +kernel
theorem dX5_merge_11 : decode cX5_merge 11 = .ok (.aload_n 0, 1) := by decide +kernel
theorem dX5_merge_12 : decode cX5_merge 12 = .ok (.getfield 24, 3) := by decide +kernel
theorem dX5_merge_15 : decode cX5_merge 15 = .ok (.iconst 0, 1) := by decide +kernel
theorem dX5_merge_16 : decode cX5_merge 16 = .ok (.aaload, 1) := by decide +kernel
theorem dX5_merge_17 : decode cX5_merge 17 = .ok (.aload_n 0, 1) := by decide +kernel
theorem dX5_merge_18 : decode cX5_merge 18 = .ok (.getfield 24, 3) := by decide +kernel
theorem dX5_merge_21 : decode cX5_merge 21 = .ok (.iconst 1, 1) := by decide +kernel
theorem dX5_merge_22 : decode cX5_merge 22 = .ok (.aaload, 1) := by decide +kernel
theorem dX5_merge_23 : decode cX5_merge 23 = .ok (.aload_n 0, 1) := by decide +kernel
theorem dX5_merge_24 : decode cX5_merge 24 = .ok (.getfield 24, 3) := by decide +kernel
theorem dX5_merge_27 : decode cX5_merge 27 = .ok (.iconst 2, 1) := by decide +kernel
theorem dX5_merge_28 : decode cX5_merge 28 = .ok (.aaload, 1) := by decide +kernel
theorem dX5_merge_29 : decode cX5_merge 29 = .ok (.aload_n 0, 1) := by decide +kernel
theorem dX5_merge_30 : decode cX5_merge 30 = .ok (.getfield 47, 3) := by decide +kernel
theorem dX5_merge_33 : decode cX5_merge 33 = .ok (.invokevirtual 144, 3) := by decide +kernel
theorem dX5_merge_36 : decode cX5_merge 36 = .ok (.aload_n 0, 1) := by decide +kernel
theorem dX5_merge_37 : decode cX5_merge 37 = .ok (.getfield 54, 3) := by decide +kernel
theorem dX5_merge_40 : decode cX5_merge 40 = .ok (.aload_n 0, 1) := by decide +kernel
theorem dX5_merge_41 : decode cX5_merge 41 = .ok (.getfield 58, 3) := by decide +kernel
theorem dX5_merge_44 : decode cX5_merge 44 = .ok (.invokevirtual 148, 3) := by decide +kernel
theorem dX5_merge_47 : decode cX5_merge 47 = .ok (.ireturn, 1) := by decide +kernel
set_option maxRecDepth 20000 in
theorem ggX5_result_X2_at : GoodIn wsX5_result wsX2_at := goodIn_r _ [6, 7, 8, 18, 19] (by decide +kernel) (by decide +kernel)
set_option maxRecDepth 20000 in
theorem gX5_result_X2_at : GoodIn wsX5_result (wsV RX5 81 RX2 yX2_at wsX2_at) := goodIn_app (goodIn_of _ (by decide +kernel)) ggX5_result_X2_at
theorem dX5_result_0 : decode cX5_result 0 = .ok (.aload_n 0, 1) := by decide +kernel
theorem dX5_result_1 : decode cX5_result 1 = .ok (.getfield 58, 3) := by decide +kernel
theorem dX5_result_4 : decode cX5_result 4 = .ok (.iload_n 1, 1) := by decide +kernel
theorem dX5_result_5 : decode cX5_result 5 = .ok (.bipush (-40), 2) := by decide +kernel
theorem dX5_result_7 : decode cX5_result 7 = .ok (.invokevirtual 81, 3) := by decide +kernel
theorem dX5_result_10 : decode cX5_result 10 = .ok (.ireturn, 1) := by decide +kernel
theorem dX5_results_0 : decode cX5_results 0 = .ok (.aload_n 0, 1) := by decide +kernel
theorem dX5_results_1 : decode cX5_results 1 = .ok (.getfield 58, 3) := by decide +kernel
theorem dX5_results_4 : decode cX5_results 4 = .ok (.getfield 78, 3) := by decide +kernel
theorem dX5_results_7 : decode cX5_results 7 = .ok (.ireturn, 1) := by decide +kernel
set_option maxRecDepth 20000 in
theorem ggX5_hunks_X5_isAround : GoodIn wsX5_hunks wsX5_isAround := goodIn_r _ [5] (by decide +kernel) (by decide +kernel)
set_option maxRecDepth 20000 in
theorem gX5_hunks_X5_isAround : GoodIn wsX5_hunks (va_wsS RX5 152 yX5_isAround wsX5_isAround) := goodIn_app (goodIn_of _ (by decide +kernel)) ggX5_hunks_X5_isAround
set_option maxRecDepth 20000 in
theorem ggX5_hunks_X3_beginsHunk : GoodIn wsX5_hunks wsX3_beginsHunk := goodIn_r _ [10, 11, 12, 13, 9, 14, 15, 16, 17, 18, 19, 20, 21, 22, 23, 24, 25, 35, 36, 37, 38] (by decide +kernel) (by decide +kernel)
set_option maxRecDepth 20000 in
theorem gX5_hunks_X3_beginsHunk : GoodIn wsX5_hunks (wsV RX5 155 RX3 yX3_beginsHunk wsX3_beginsHunk) := goodIn_app (goodIn_of _ (by decide +kernel)) ggX5_hunks_X3_beginsHunk
theorem dX5_hunks_0 : decode cX5_hunks 0 = .ok (.iload_n 1, 1) := by decide +kernel
theorem dX5_hunks_1 : decode cX5_hunks 1 = .ok (.invokestatic 152, 3) := by decide +kernel
theorem dX5_hunks_4 : decode cX5_hunks 4 = .ok (.ifCond .ne 5, 3) := by decide +kernel
theorem dX5_hunks_7 : decode cX5_hunks 7 = .ok (.iconst 0, 1) := by decide +kernel
theorem dX5_hunks_8 : decode cX5_hunks 8 = .ok (.ireturn, 1) := by decide +kernel
theorem dX5_hunks_9 : decode cX5_hunks 9 = .ok (.iconst 0, 1) := by decide +kernel
theorem dX5_hunks_10 : decode cX5_hunks 10 = .ok (.istore_n 2, 1) := by decide +kernel
theorem dX5_hunks_11 : decode cX5_hunks 11 = .ok (.iconst 0, 1) := by decide +kernel
theorem dX5_hunks_12 : decode cX5_hunks 12 = .ok (.istore_n 3, 1) := by decide +kernel
theorem dX5_hunks_13 : decode cX5_hunks 13 = .ok (.iload_n 3, 1) := by decide +kernel
theorem dX5_hunks_14 : decode cX5_hunks 14 = .ok (.aload_n 0, 1) := by decide +kernel
theorem dX5_hunks_15 : decode cX5_hunks 15 = .ok (.getfield 38, 3) := by decide +kernel
theorem dX5_hunks_18 : decode cX5_hunks 18 = .ok (.getfield 108, 3) := by decide +kernel
theorem dX5_hunks_21 : decode cX5_hunks 21 = .ok (.if_icmp .ge 24, 3) := by decide +kernel
theorem dX5_hunks_24 : decode cX5_hunks 24 = .ok (.aload_n 0, 1) := by decide +kernel
theorem dX5_hunks_25 : decode cX5_hunks 25 = .ok (.getfield 38, 3) := by decide +kernel
theorem dX5_hunks_28 : decode cX5_hunks 28 = .ok (.iload_n 3, 1) := by decide +kernel
theorem dX5_hunks_29 : decode cX5_hunks 29 = .ok (.iload_n 1, 1) := by decide +kernel
theorem dX5_hunks_30 : decode cX5_hunks 30 = .ok (.invokevirtual 155, 3) := by decide +kernel
theorem dX5_hunks_33 : decode cX5_hunks 33 = .ok (.ifCond .eq 6, 3) := by decide +kernel
theorem dX5_hunks_36 : decode cX5_hunks 36 = .ok (.iinc 2 1, 3) := by decide +kernel
theorem dX5_hunks_39 : decode cX5_hunks 39 = .ok (.iinc 3 1, 3) := by decide +kernel
theorem dX5_hunks_42 : decode cX5_hunks 42 = .ok (.goto (-29), 3) := by decide +kernel
theorem dX5_hunks_45 : decode cX5_hunks 45 = .ok (.iload_n 2, 1) := by decide +kernel
theorem dX5_hunks_46 : decode cX5_hunks 46 = .ok (.ireturn, 1) := by decide +kernel
set_option maxRecDepth 20000 in
theorem ggX5_hunk_X5_hunks : GoodIn wsX5_hunk wsX5_hunks := goodIn_r _ [14, 1, 15, 16, 13, 17, 18, 19, 20, 21, 22, 23, 24, 25, 26, 27, 28, 29, 30, 31, 32, 33, 34, 35, 36, 37, 53, 54, 55, 56, 57, 58, 59, 60, 61, 62, 63, 64, 65] (by decide +kernel) (by decide +kernel)
set_option maxRecDepth 20000 in
theorem gX5_hunk_X5_hunks : GoodIn wsX5_hunk (wsV RX5 159 RX5 yX5_hunks wsX5_hunks) := goodIn_app (goodIn_of _ (by decide +kernel)) ggX5_hunk_X5_hunks
set_option maxRecDepth 20000 in
theorem ggX5_hunk_X3_firstOfHunk : GoodIn wsX5_hunk wsX3_firstOfHunk := goodIn_r _ [41, 32, 42, 19, 20, 21, 22, 23, 24, 25, 26, 27, 28, 29, 30, 31, 33, 34, 35, 36, 37, 62, 63, 64, 65] (by decide +kernel) (by decide +kernel)
set_option maxRecDepth 20000 in
theorem gX5_hunk_X3_firstOfHunk : GoodIn wsX5_hunk (wsV RX5 162 RX3 yX3_firstOfHunk wsX3_firstOfHunk) := goodIn_app (goodIn_of _ (by decide +kernel)) ggX5_hunk_X3_firstOfHunk
set_option maxRecDepth 20000 in
theorem ggX5_hunk_X3_lastOfHunk : GoodIn wsX5_hunk wsX3_lastOfHunk := goodIn_r _ [46, 32, 42, 19, 20, 21, 22, 23, 24, 25, 26, 27, 28, 29, 30, 31, 33, 34, 35, 36, 37, 62, 63, 64, 65] (by decide +kernel) (by decide +kernel)
set_option maxRecDepth 20000 in
theorem gX5_hunk_X3_lastOfHunk : GoodIn wsX5_hunk (wsV RX5 165 RX3 yX3_lastOfHunk wsX3_lastOfHunk) := goodIn_app (goodIn_of _ (by decide +kernel)) ggX5_hunk_X3_lastOfHunk
set_option maxRecDepth 20000 in
theorem ggX5_hunk_X3_placeOf : GoodIn wsX5_hunk wsX3_placeOf := goodIn_r _ [26, 27, 28, 29, 30, 21, 31, 32, 62, 63, 64, 65] (by decide +kernel) (by decide +kernel)
set_option maxRecDepth 20000 in
theorem gX5_hunk_X3_placeOf : GoodIn wsX5_hunk (wsV RX5 168 RX3 yX3_placeOf wsX3_placeOf) := goodIn_app (goodIn_of _ (by decide +kernel)) ggX5_hunk_X3_placeOf
set_option maxRecDepth 20000 in
theorem ggX5_hunk_X3_behind : GoodIn wsX5_hunk wsX3_behind := goodIn_r _ [36, 37, 27, 28, 29, 30, 21, 31, 32, 62, 63, 64, 65] (by decide +kernel) (by decide +kernel)
set_option maxRecDepth 20000 in
theorem gX5_hunk_X3_behind : GoodIn wsX5_hunk (wsV RX5 137 RX3 yX3_behind wsX3_behind) := goodIn_app (goodIn_of _ (by decide +kernel)) ggX5_hunk_X3_behind
set_option maxRecDepth 20000 in
theorem ggX5_hunk_X3_countKind : GoodIn wsX5_hunk wsX3_countKind := goodIn_r _ [52, 37, 28, 29, 30, 21, 31, 32, 62, 63, 64, 65] (by decide +kernel) (by decide +kernel)
set_option maxRecDepth 20000 in
theorem gX5_hunk_X3_countKind : GoodIn wsX5_hunk (wsV RX5 171 RX3 yX3_countKind wsX3_countKind) := goodIn_app (goodIn_of _ (by decide +kernel)) ggX5_hunk_X3_countKind
theorem dX5_hunk_0 : decode cX5_hunk 0 = .ok (.iload_n 2, 1) := by decide +kernel
theorem dX5_hunk_1 : decode cX5_hunk 1 = .ok (.ifCond .lt 12, 3) := by decide +kernel
theorem dX5_hunk_4 : decode cX5_hunk 4 = .ok (.iload_n 2, 1) := by decide +kernel
theorem dX5_hunk_5 : decode cX5_hunk 5 = .ok (.aload_n 0, 1) := by decide +kernel
theorem dX5_hunk_6 : decode cX5_hunk 6 = .ok (.iload_n 1, 1) := by decide +kernel
theorem dX5_hunk_7 : decode cX5_hunk 7 = .ok (.invokevirtual 159, 3) := by decide +kernel
theorem dX5_hunk_10 : decode cX5_hunk 10 = .ok (.if_icmp .lt 5, 3) := by decide +kernel
theorem dX5_hunk_13 : decode cX5_hunk 13 = .ok (.iconst (-1), 1) := by decide +kernel
theorem dX5_hunk_14 : decode cX5_hunk 14 = .ok (.ireturn, 1) := by decide +kernel
theorem dX5_hunk_15 : decode cX5_hunk 15 = .ok (.aload_n 0, 1) := by decide +kernel
theorem dX5_hunk_16 : decode cX5_hunk 16 = .ok (.getfield 38, 3) := by decide +kernel
theorem dX5_hunk_19 : decode cX5_hunk 19 = .ok (.iload_n 2, 1) := by decide +kernel
theorem dX5_hunk_20 : decode cX5_hunk 20 = .ok (.iload_n 1, 1) := by decide +kernel
theorem dX5_hunk_21 : decode cX5_hunk 21 = .ok (.invokevirtual 162, 3) := by decide +kernel
theorem dX5_hunk_24 : decode cX5_hunk 24 = .ok (.istore 4, 2) := by decide +kernel
theorem dX5_hunk_26 : decode cX5_hunk 26 = .ok (.aload_n 0, 1) := by decide +kernel
theorem dX5_hunk_27 : decode cX5_hunk 27 = .ok (.getfield 38, 3) := by decide +kernel
theorem dX5_hunk_30 : decode cX5_hunk 30 = .ok (.iload 4, 2) := by decide +kernel
theorem dX5_hunk_32 : decode cX5_hunk 32 = .ok (.iload_n 1, 1) := by decide +kernel
theorem dX5_hunk_33 : decode cX5_hunk 33 = .ok (.invokevirtual 165, 3) := by decide +kernel
theorem dX5_hunk_36 : decode cX5_hunk 36 = .ok (.istore 5, 2) := by decide +kernel
theorem dX5_hunk_38 : decode cX5_hunk 38 = .ok (.iconst 0, 1) := by decide +kernel
theorem dX5_hunk_39 : decode cX5_hunk 39 = .ok (.aload_n 0, 1) := by decide +kernel
theorem dX5_hunk_40 : decode cX5_hunk 40 = .ok (.getfield 38, 3) := by decide +kernel
theorem dX5_hunk_43 : decode cX5_hunk 43 = .ok (.iload 4, 2) := by decide +kernel
theorem dX5_hunk_45 : decode cX5_hunk 45 = .ok (.invokevirtual 168, 3) := by decide +kernel
theorem dX5_hunk_48 : decode cX5_hunk 48 = .ok (.iload_n 1, 1) := by decide +kernel
theorem dX5_hunk_49 : decode cX5_hunk 49 = .ok (.isub, 1) := by decide +kernel
theorem dX5_hunk_50 : decode cX5_hunk 50 = .ok (.invokestatic 15, 3) := by decide +kernel
theorem dX5_hunk_53 : decode cX5_hunk 53 = .ok (.istore 6, 2) := by decide +kernel
theorem dX5_hunk_55 : decode cX5_hunk 55 = .ok (.iload_n 3, 1) := by decide +kernel
theorem dX5_hunk_56 : decode cX5_hunk 56 = .ok (.tableswitch 83 0 3 #[32, 35, 57, 70], 32) := by decide +kernel
theorem dX5_hunk_88 : decode cX5_hunk 88 = .ok (.iload 6, 2) := by decide +kernel
theorem dX5_hunk_90 : decode cX5_hunk 90 = .ok (.ireturn, 1) := by decide +kernel
theorem dX5_hunk_91 : decode cX5_hunk 91 = .ok (.aload_n 0, 1) := by decide +kernel
theorem dX5_hunk_92 : decode cX5_hunk 92 = .ok (.getfield 41, 3) := by decide +kernel
theorem dX5_hunk_95 : decode cX5_hunk 95 = .ok (.aload_n 0, 1) := by decide +kernel
theorem dX5_hunk_96 : decode cX5_hunk 96 = .ok (.getfield 38, 3) := by decide +kernel
theorem dX5_hunk_99 : decode cX5_hunk 99 = .ok (.iload 5, 2) := by decide +kernel
theorem dX5_hunk_101 : decode cX5_hunk 101 = .ok (.invokevirtual 137, 3) := by decide +kernel
theorem dX5_hunk_104 : decode cX5_hunk 104 = .ok (.iload_n 1, 1) := by decide +kernel
theorem dX5_hunk_105 : decode cX5_hunk 105 = .ok (.iadd, 1) := by decide +kernel
theorem dX5_hunk_106 : decode cX5_hunk 106 = .ok (.invokestatic 9, 3) := by decide +kernel
theorem dX5_hunk_109 : decode cX5_hunk 109 = .ok (.iload 6, 2) := by decide +kernel
theorem dX5_hunk_111 : decode cX5_hunk 111 = .ok (.isub, 1) := by decide +kernel
theorem dX5_hunk_112 : decode cX5_hunk 112 = .ok (.ireturn, 1) := by decide +kernel
theorem dX5_hunk_113 : decode cX5_hunk 113 = .ok (.aload_n 0, 1) := by decide +kernel
theorem dX5_hunk_114 : decode cX5_hunk 114 = .ok (.getfield 38, 3) := by decide +kernel
theorem dX5_hunk_117 : decode cX5_hunk 117 = .ok (.iconst 1, 1) := by decide +kernel
theorem dX5_hunk_118 : decode cX5_hunk 118 = .ok (.iload 4, 2) := by decide +kernel
theorem dX5_hunk_120 : decode cX5_hunk 120 = .ok (.iload 5, 2) := by decide +kernel
theorem dX5_hunk_122 : decode cX5_hunk 122 = .ok (.invokevirtual 171, 3) := by decide +kernel
theorem dX5_hunk_125 : decode cX5_hunk 125 = .ok (.ireturn, 1) := by decide +kernel
theorem dX5_hunk_126 : decode cX5_hunk 126 = .ok (.aload_n 0, 1) := by decide +kernel
theorem dX5_hunk_127 : decode cX5_hunk 127 = .ok (.getfield 38, 3) := by decide +kernel
theorem dX5_hunk_130 : decode cX5_hunk 130 = .ok (.iconst 0, 1) := by decide +kernel
theorem dX5_hunk_131 : decode cX5_hunk 131 = .ok (.iload 4, 2) := by decide +kernel
theorem dX5_hunk_133 : decode cX5_hunk 133 = .ok (.iload 5, 2) := by decide +kernel
theorem dX5_hunk_135 : decode cX5_hunk 135 = .ok (.invokevirtual 171, 3) := by decide +kernel
theorem dX5_hunk_138 : decode cX5_hunk 138 = .ok (.ireturn, 1) := by decide +kernel
theorem dX5_hunk_139 : decode cX5_hunk 139 = .ok (.iconst (-1), 1) := by decide +kernel
theorem dX5_hunk_140 : decode cX5_hunk 140 = .ok (.ireturn, 1) := by decide +kernel
set_option maxRecDepth 20000 in
theorem ggX5_alike_X5_isRow : GoodIn wsX5_alike wsX5_isRow := goodIn_r _ [7] (by decide +kernel) (by decide +kernel)
set_option maxRecDepth 20000 in
theorem gX5_alike_X5_isRow : GoodIn wsX5_alike (va_wsS RX5 65 yX5_isRow wsX5_isRow) := goodIn_app (goodIn_of _ (by decide +kernel)) ggX5_alike_X5_isRow
set_option maxRecDepth 20000 in
theorem ggX5_alike_X0_compare : GoodIn wsX5_alike wsX0_compare := goodIn_r _ [12, 13, 14, 15, 16, 17, 18, 11, 19, 20, 21, 22, 23, 24, 25, 26, 27, 43, 44, 45, 41, 42] (by decide +kernel) (by decide +kernel)
set_option maxRecDepth 20000 in
theorem gX5_alike_X0_compare : GoodIn wsX5_alike (wsV RX5 91 RX0 yX0_compare wsX0_compare) := goodIn_app (goodIn_of _ (by decide +kernel)) ggX5_alike_X0_compare
set_option maxRecDepth 20000 in
theorem ggX5_alike_X0_operations : GoodIn wsX5_alike wsX0_operations := goodIn_r _ [31, 15, 43, 44, 45] (by decide +kernel) (by decide +kernel)
set_option maxRecDepth 20000 in
theorem gX5_alike_X0_operations : GoodIn wsX5_alike (wsV RX5 95 RX0 yX0_operations wsX0_operations) := goodIn_app (goodIn_of _ (by decide +kernel)) ggX5_alike_X0_operations
theorem dX5_alike_0 : decode cX5_alike 0 = .ok (.iload_n 1, 1) := by decide +kernel
theorem dX5_alike_1 : decode cX5_alike 1 = .ok (.invokestatic 65, 3) := by decide +kernel
theorem dX5_alike_4 : decode cX5_alike 4 = .ok (.ifCond .eq 10, 3) := by decide +kernel
theorem dX5_alike_7 : decode cX5_alike 7 = .ok (.iload_n 2, 1) := by decide +kernel
theorem dX5_alike_8 : decode cX5_alike 8 = .ok (.invokestatic 65, 3) := by decide +kernel
theorem dX5_alike_11 : decode cX5_alike 11 = .ok (.ifCond .ne 6, 3) := by decide +kernel
theorem dX5_alike_14 : decode cX5_alike 14 = .ok (.ldc 175, 2) := by decide +kernel
theorem dX5_alike_16 : decode cX5_alike 16 = .ok (.freturn, 1) := by decide +kernel
theorem dX5_alike_17 : decode cX5_alike 17 = .ok (.aload_n 0, 1) := by decide +kernel
theorem dX5_alike_18 : decode cX5_alike 18 = .ok (.getfield 24, 3) := by decide +kernel
theorem dX5_alike_21 : decode cX5_alike 21 = .ok (.iload_n 1, 1) := by decide +kernel
theorem dX5_alike_22 : decode cX5_alike 22 = .ok (.aaload, 1) := by decide +kernel
theorem dX5_alike_23 : decode cX5_alike 23 = .ok (.getfield 78, 3) := by decide +kernel
theorem dX5_alike_26 : decode cX5_alike 26 = .ok (.aload_n 0, 1) := by decide +kernel
theorem dX5_alike_27 : decode cX5_alike 27 = .ok (.getfield 24, 3) := by decide +kernel
theorem dX5_alike_30 : decode cX5_alike 30 = .ok (.iload_n 2, 1) := by decide +kernel
theorem dX5_alike_31 : decode cX5_alike 31 = .ok (.aaload, 1) := by decide +kernel
theorem dX5_alike_32 : decode cX5_alike 32 = .ok (.getfield 78, 3) := by decide +kernel
theorem dX5_alike_35 : decode cX5_alike 35 = .ok (.iadd, 1) := by decide +kernel
theorem dX5_alike_36 : decode cX5_alike 36 = .ok (.istore_n 3, 1) := by decide +kernel
theorem dX5_alike_37 : decode cX5_alike 37 = .ok (.iload_n 3, 1) := by decide +kernel
theorem dX5_alike_38 : decode cX5_alike 38 = .ok (.ifCond .ne 5, 3) := by decide +kernel
theorem dX5_alike_41 : decode cX5_alike 41 = .ok (.fconst 1, 1) := by decide +kernel
theorem dX5_alike_42 : decode cX5_alike 42 = .ok (.freturn, 1) := by decide +kernel
theorem dX5_alike_43 : decode cX5_alike 43 = .ok (.aload_n 0, 1) := by decide +kernel
theorem dX5_alike_44 : decode cX5_alike 44 = .ok (.getfield 47, 3) := by decide +kernel
theorem dX5_alike_47 : decode cX5_alike 47 = .ok (.aload_n 0, 1) := by decide +kernel
theorem dX5_alike_48 : decode cX5_alike 48 = .ok (.getfield 24, 3) := by decide +kernel
theorem dX5_alike_51 : decode cX5_alike 51 = .ok (.iload_n 1, 1) := by decide +kernel
theorem dX5_alike_52 : decode cX5_alike 52 = .ok (.aaload, 1) := by decide +kernel
theorem dX5_alike_53 : decode cX5_alike 53 = .ok (.aload_n 0, 1) := by decide +kernel
theorem dX5_alike_54 : decode cX5_alike 54 = .ok (.getfield 24, 3) := by decide +kernel
theorem dX5_alike_57 : decode cX5_alike 57 = .ok (.iload_n 2, 1) := by decide +kernel
theorem dX5_alike_58 : decode cX5_alike 58 = .ok (.aaload, 1) := by decide +kernel
theorem dX5_alike_59 : decode cX5_alike 59 = .ok (.invokevirtual 91, 3) := by decide +kernel
theorem dX5_alike_62 : decode cX5_alike 62 = .ok (.iload_n 3, 1) := by decide +kernel
theorem dX5_alike_63 : decode cX5_alike 63 = .ok (.aload_n 0, 1) := by decide +kernel
theorem dX5_alike_64 : decode cX5_alike 64 = .ok (.getfield 47, 3) := by decide +kernel
theorem dX5_alike_67 : decode cX5_alike 67 = .ok (.invokevirtual 95, 3) := by decide +kernel
theorem dX5_alike_70 : decode cX5_alike 70 = .ok (.isub, 1) := by decide +kernel
theorem dX5_alike_71 : decode cX5_alike 71 = .ok (.istore 4, 2) := by decide +kernel
theorem dX5_alike_73 : decode cX5_alike 73 = .ok (.iload 4, 2) := by decide +kernel
theorem dX5_alike_75 : decode cX5_alike 75 = .ok (.i2f, 1) := by decide +kernel
theorem dX5_alike_76 : decode cX5_alike 76 = .ok (.iload_n 3, 1) := by decide +kernel
theorem dX5_alike_77 : decode cX5_alike 77 = .ok (.i2f, 1) := by decide +kernel
theorem dX5_alike_78 : decode cX5_alike 78 = .ok (.fdiv, 1) := by decide +kernel
theorem dX5_alike_79 : decode cX5_alike 79 = .ok (.freturn, 1) := by decide +kernel
theorem dX5_isRow_0 : decode cX5_isRow 0 = .ok (.iload_n 0, 1) := by decide +kernel
theorem dX5_isRow_1 : decode cX5_isRow 1 = .ok (.ifCond .lt 12, 3) := by decide +kernel
theorem dX5_isRow_4 : decode cX5_isRow 4 = .ok (.iload_n 0, 1) := by decide +kernel
theorem dX5_isRow_5 : decode cX5_isRow 5 = .ok (.iconst 3, 1) := by decide +kernel
theorem dX5_isRow_6 : decode cX5_isRow 6 = .ok (.if_icmp .ge 7, 3) := by decide +kernel
theorem dX5_isRow_9 : decode cX5_isRow 9 = .ok (.iconst 1, 1) := by decide +kernel
theorem dX5_isRow_10 : decode cX5_isRow 10 = .ok (.goto 4, 3) := by decide +kernel
theorem dX5_isRow_13 : decode cX5_isRow 13 = .ok (.iconst 0, 1) := by decide +kernel
theorem dX5_isRow_14 : decode cX5_isRow 14 = .ok (.ireturn, 1) := by decide +kernel
theorem dX5_isSymbol_0 : decode cX5_isSymbol 0 = .ok (.iload_n 0, 1) := by decide +kernel
theorem dX5_isSymbol_1 : decode cX5_isSymbol 1 = .ok (.ifCond .lt 14, 3) := by decide +kernel
theorem dX5_isSymbol_4 : decode cX5_isSymbol 4 = .ok (.iload_n 0, 1) := by decide +kernel
theorem dX5_isSymbol_5 : decode cX5_isSymbol 5 = .ok (.sipush 30000, 3) := by decide +kernel
theorem dX5_isSymbol_8 : decode cX5_isSymbol 8 = .ok (.if_icmp .gt 7, 3) := by decide +kernel
theorem dX5_isSymbol_11 : decode cX5_isSymbol 11 = .ok (.iconst 1, 1) := by decide +kernel
theorem dX5_isSymbol_12 : decode cX5_isSymbol 12 = .ok (.goto 4, 3) := by decide +kernel
theorem dX5_isSymbol_15 : decode cX5_isSymbol 15 = .ok (.iconst 0, 1) := by decide +kernel
theorem dX5_isSymbol_16 : decode cX5_isSymbol 16 = .ok (.ireturn, 1) := by decide +kernel
theorem dX5_isAround_0 : decode cX5_isAround 0 = .ok (.iload_n 0, 1) := by decide +kernel
theorem dX5_isAround_1 : decode cX5_isAround 1 = .ok (.ifCond .lt 13, 3) := by decide +kernel
theorem dX5_isAround_4 : decode cX5_isAround 4 = .ok (.iload_n 0, 1) := by decide +kernel
theorem dX5_isAround_5 : decode cX5_isAround 5 = .ok (.bipush 9, 2) := by decide +kernel
theorem dX5_isAround_7 : decode cX5_isAround 7 = .ok (.if_icmp .gt 7, 3) := by decide +kernel
theorem dX5_isAround_10 : decode cX5_isAround 10 = .ok (.iconst 1, 1) := by decide +kernel
theorem dX5_isAround_11 : decode cX5_isAround 11 = .ok (.goto 4, 3) := by decide +kernel
theorem dX5_isAround_14 : decode cX5_isAround 14 = .ok (.iconst 0, 1) := by decide +kernel
theorem dX5_isAround_15 : decode cX5_isAround 15 = .ok (.ireturn, 1) := by decide +kernel
set_option maxRecDepth 20000 in
theorem ggX5_checkOperation_X5_isSymbol : GoodIn wsX5_checkOperation wsX5_isSymbol := goodIn_r _ [11] (by decide +kernel) (by decide +kernel)
set_option maxRecDepth 20000 in
theorem gX5_checkOperation_X5_isSymbol : GoodIn wsX5_checkOperation (va_wsS RX5 69 yX5_isSymbol wsX5_isSymbol) := goodIn_app (goodIn_of _ (by decide +kernel)) ggX5_checkOperation_X5_isSymbol
set_option maxRecDepth 20000 in
theorem ggX5_checkOperation_X3_behind : GoodIn wsX5_checkOperation wsX3_behind := goodIn_r _ [16, 17, 18, 19, 20, 21, 15, 22, 23, 40, 41, 42, 43] (by decide +kernel) (by decide +kernel)
set_option maxRecDepth 20000 in
theorem gX5_checkOperation_X3_behind : GoodIn wsX5_checkOperation (wsV RX5 137 RX3 yX3_behind wsX3_behind) := goodIn_app (goodIn_of _ (by decide +kernel)) ggX5_checkOperation_X3_behind
set_option maxRecDepth 20000 in
theorem ggX5_checkOperation_X2_at : GoodIn wsX5_checkOperation wsX2_at := goodIn_r _ [28, 29, 30, 44, 45] (by decide +kernel) (by decide +kernel)
set_option maxRecDepth 20000 in
theorem gX5_checkOperation_X2_at : GoodIn wsX5_checkOperation (wsV RX5 81 RX2 yX2_at wsX2_at) := goodIn_app (goodIn_of _ (by decide +kernel)) ggX5_checkOperation_X2_at
theorem dX5_checkOperation_0 : decode cX5_checkOperation 0 = .ok (.aload_n 0, 1) := by decide +kernel
theorem dX5_checkOperation_1 : decode cX5_checkOperation 1 = .ok (.getfield 34, 3) := by decide +kernel
theorem dX5_checkOperation_4 : decode cX5_checkOperation 4 = .ok (.getfield 112, 3) := by decide +kernel
theorem dX5_checkOperation_7 : decode cX5_checkOperation 7 = .ok (.iload_n 2, 1) := by decide +kernel
theorem dX5_checkOperation_8 : decode cX5_checkOperation 8 = .ok (.iaload, 1) := by decide +kernel
theorem dX5_checkOperation_9 : decode cX5_checkOperation 9 = .ok (.istore_n 3, 1) := by decide +kernel
theorem dX5_checkOperation_10 : decode cX5_checkOperation 10 = .ok (.aload_n 0, 1) := by decide +kernel
theorem dX5_checkOperation_11 : decode cX5_checkOperation 11 = .ok (.getfield 34, 3) := by decide +kernel
theorem dX5_checkOperation_14 : decode cX5_checkOperation 14 = .ok (.getfield 116, 3) := by decide +kernel
theorem dX5_checkOperation_17 : decode cX5_checkOperation 17 = .ok (.iload_n 2, 1) := by decide +kernel
theorem dX5_checkOperation_18 : decode cX5_checkOperation 18 = .ok (.iaload, 1) := by decide +kernel
theorem dX5_checkOperation_19 : decode cX5_checkOperation 19 = .ok (.istore 4, 2) := by decide +kernel
theorem dX5_checkOperation_21 : decode cX5_checkOperation 21 = .ok (.iload_n 3, 1) := by decide +kernel
theorem dX5_checkOperation_22 : decode cX5_checkOperation 22 = .ok (.ifCond .eq 8, 3) := by decide +kernel
theorem dX5_checkOperation_25 : decode cX5_checkOperation 25 = .ok (.iload_n 3, 1) := by decide +kernel
theorem dX5_checkOperation_26 : decode cX5_checkOperation 26 = .ok (.iconst 1, 1) := by decide +kernel
theorem dX5_checkOperation_27 : decode cX5_checkOperation 27 = .ok (.if_icmp .ne 18, 3) := by decide +kernel
theorem dX5_checkOperation_30 : decode cX5_checkOperation 30 = .ok (.aload_n 0, 1) := by decide +kernel
theorem dX5_checkOperation_31 : decode cX5_checkOperation 31 = .ok (.getfield 34, 3) := by decide +kernel
theorem dX5_checkOperation_34 : decode cX5_checkOperation 34 = .ok (.getfield 119, 3) := by decide +kernel
theorem dX5_checkOperation_37 : decode cX5_checkOperation 37 = .ok (.iload_n 2, 1) := by decide +kernel
theorem dX5_checkOperation_38 : decode cX5_checkOperation 38 = .ok (.iaload, 1) := by decide +kernel
theorem dX5_checkOperation_39 : decode cX5_checkOperation 39 = .ok (.invokestatic 69, 3) := by decide +kernel
theorem dX5_checkOperation_42 : decode cX5_checkOperation 42 = .ok (.ifCond .ne 13, 3) := by decide +kernel
theorem dX5_checkOperation_45 : decode cX5_checkOperation 45 = .ok (.new 84, 3) := by decide +kernel
theorem dX5_checkOperation_48 : decode cX5_checkOperation 48 = .ok (.dup, 1) := by decide +kernel
theorem dX5_checkOperation_49 : decode cX5_checkOperation 49 = .ok (.ldc 176, 2) := by decide +kernel
theorem dX5_checkOperation_51 : decode cX5_checkOperation 51 = .ok (.invokespecial 88, 3) := by decide +kernel
theorem dX5_checkOperation_54 : decode cX5_checkOperation 54 = .ok (.athrow, 1) := by decide +kernel
theorem dX5_checkOperation_55 : decode cX5_checkOperation 55 = .ok (.iload_n 3, 1) := by decide +kernel
theorem dX5_checkOperation_56 : decode cX5_checkOperation 56 = .ok (.iconst 1, 1) := by decide +kernel
theorem dX5_checkOperation_57 : decode cX5_checkOperation 57 = .ok (.if_icmp .ne 10, 3) := by decide +kernel
theorem dX5_checkOperation_60 : decode cX5_checkOperation 60 = .ok (.aload_n 1, 1) := by decide +kernel
theorem dX5_checkOperation_61 : decode cX5_checkOperation 61 = .ok (.getfield 78, 3) := by decide +kernel
theorem dX5_checkOperation_64 : decode cX5_checkOperation 64 = .ok (.goto 9, 3) := by decide +kernel
theorem dX5_checkOperation_67 : decode cX5_checkOperation 67 = .ok (.aload_n 1, 1) := by decide +kernel
theorem dX5_checkOperation_68 : decode cX5_checkOperation 68 = .ok (.getfield 78, 3) := by decide +kernel
theorem dX5_checkOperation_71 : decode cX5_checkOperation 71 = .ok (.iconst 1, 1) := by decide +kernel
theorem dX5_checkOperation_72 : decode cX5_checkOperation 72 = .ok (.isub, 1) := by decide +kernel
theorem dX5_checkOperation_73 : decode cX5_checkOperation 73 = .ok (.istore 5, 2) := by decide +kernel
theorem dX5_checkOperation_75 : decode cX5_checkOperation 75 = .ok (.iload_n 2, 1) := by decide +kernel
theorem dX5_checkOperation_76 : decode cX5_checkOperation 76 = .ok (.ifCond .le 16, 3) := by decide +kernel
theorem dX5_checkOperation_79 : decode cX5_checkOperation 79 = .ok (.aload_n 0, 1) := by decide +kernel
theorem dX5_checkOperation_80 : decode cX5_checkOperation 80 = .ok (.getfield 34, 3) := by decide +kernel
theorem dX5_checkOperation_83 : decode cX5_checkOperation 83 = .ok (.iload_n 2, 1) := by decide +kernel
theorem dX5_checkOperation_84 : decode cX5_checkOperation 84 = .ok (.iconst 1, 1) := by decide +kernel
theorem dX5_checkOperation_85 : decode cX5_checkOperation 85 = .ok (.isub, 1) := by decide +kernel
theorem dX5_checkOperation_86 : decode cX5_checkOperation 86 = .ok (.invokevirtual 137, 3) := by decide +kernel
theorem dX5_checkOperation_89 : decode cX5_checkOperation 89 = .ok (.goto 4, 3) := by decide +kernel
theorem dX5_checkOperation_92 : decode cX5_checkOperation 92 = .ok (.iconst 0, 1) := by decide +kernel
theorem dX5_checkOperation_93 : decode cX5_checkOperation 93 = .ok (.istore 6, 2) := by decide +kernel
theorem dX5_checkOperation_95 : decode cX5_checkOperation 95 = .ok (.iload 4, 2) := by decide +kernel
theorem dX5_checkOperation_97 : decode cX5_checkOperation 97 = .ok (.iload 6, 2) := by decide +kernel
theorem dX5_checkOperation_99 : decode cX5_checkOperation 99 = .ok (.if_icmp .lt 10, 3) := by decide +kernel
theorem dX5_checkOperation_102 : decode cX5_checkOperation 102 = .ok (.iload 4, 2) := by decide +kernel
theorem dX5_checkOperation_104 : decode cX5_checkOperation 104 = .ok (.iload 5, 2) := by decide +kernel
theorem dX5_checkOperation_106 : decode cX5_checkOperation 106 = .ok (.if_icmp .le 13, 3) := by decide +kernel
theorem dX5_checkOperation_109 : decode cX5_checkOperation 109 = .ok (.new 178, 3) := by decide +kernel
theorem dX5_checkOperation_112 : decode cX5_checkOperation 112 = .ok (.dup, 1) := by decide +kernel
theorem dX5_checkOperation_113 : decode cX5_checkOperation 113 = .ok (.ldc 180, 2) := by decide +kernel
theorem dX5_checkOperation_115 : decode cX5_checkOperation 115 = .ok (.invokespecial 182, 3) := by decide +kernel
theorem dX5_checkOperation_118 : decode cX5_checkOperation 118 = .ok (.athrow, 1) := by decide +kernel
theorem dX5_checkOperation_119 : decode cX5_checkOperation 119 = .ok (.iload_n 3, 1) := by decide +kernel
theorem dX5_checkOperation_120 : decode cX5_checkOperation 120 = .ok (.ifCond .ne 32, 3) := by decide +kernel
theorem dX5_checkOperation_123 : decode cX5_checkOperation 123 = .ok (.aload_n 1, 1) := by decide +kernel
theorem dX5_checkOperation_124 : decode cX5_checkOperation 124 = .ok (.iload 4, 2) := by decide +kernel
theorem dX5_checkOperation_126 : decode cX5_checkOperation 126 = .ok (.iconst (-1), 1) := by decide +kernel
theorem dX5_checkOperation_127 : decode cX5_checkOperation 127 = .ok (.invokevirtual 81, 3) := by decide +kernel
theorem dX5_checkOperation_130 : decode cX5_checkOperation 130 = .ok (.aload_n 0, 1) := by decide +kernel
theorem dX5_checkOperation_131 : decode cX5_checkOperation 131 = .ok (.getfield 34, 3) := by decide +kernel
theorem dX5_checkOperation_134 : decode cX5_checkOperation 134 = .ok (.getfield 119, 3) := by decide +kernel
theorem dX5_checkOperation_137 : decode cX5_checkOperation 137 = .ok (.iload_n 2, 1) := by decide +kernel
theorem dX5_checkOperation_138 : decode cX5_checkOperation 138 = .ok (.iaload, 1) := by decide +kernel
theorem dX5_checkOperation_139 : decode cX5_checkOperation 139 = .ok (.if_icmp .eq 13, 3) := by decide +kernel
theorem dX5_checkOperation_142 : decode cX5_checkOperation 142 = .ok (.new 99, 3) := by decide +kernel
theorem dX5_checkOperation_145 : decode cX5_checkOperation 145 = .ok (.dup, 1) := by decide +kernel
theorem dX5_checkOperation_146 : decode cX5_checkOperation 146 = .ok (.ldc 183, 2) := by decide +kernel
theorem dX5_checkOperation_148 : decode cX5_checkOperation 148 = .ok (.invokespecial 103, 3) := by decide +kernel
theorem dX5_checkOperation_151 : decode cX5_checkOperation 151 = .ok (.athrow, 1) := by decide +kernel
theorem dX5_checkOperation_152 : decode cX5_checkOperation 152 = .ok (.return_, 1) := by decide +kernel
theorem dX5_checkRoom_0 : decode cX5_checkRoom 0 = .ok (.aload_n 0, 1) := by decide +kernel
theorem dX5_checkRoom_1 : decode cX5_checkRoom 1 = .ok (.getfield 62, 3) := by decide +kernel
theorem dX5_checkRoom_4 : decode cX5_checkRoom 4 = .ok (.getfield 78, 3) := by decide +kernel
theorem dX5_checkRoom_7 : decode cX5_checkRoom 7 = .ok (.iload_n 1, 1) := by decide +kernel
theorem dX5_checkRoom_8 : decode cX5_checkRoom 8 = .ok (.iadd, 1) := by decide +kernel
theorem dX5_checkRoom_9 : decode cX5_checkRoom 9 = .ok (.bipush 60, 2) := by decide +kernel
theorem dX5_checkRoom_11 : decode cX5_checkRoom 11 = .ok (.if_icmp .le 13, 3) := by decide +kernel
theorem dX5_checkRoom_14 : decode cX5_checkRoom 14 = .ok (.new 185, 3) := by decide +kernel
theorem dX5_checkRoom_17 : decode cX5_checkRoom 17 = .ok (.dup, 1) := by decide +kernel
theorem dX5_checkRoom_18 : decode cX5_checkRoom 18 = .ok (.ldc 187, 2) := by decide +kernel
theorem dX5_checkRoom_20 : decode cX5_checkRoom 20 = .ok (.invokespecial 189, 3) := by decide +kernel
theorem dX5_checkRoom_23 : decode cX5_checkRoom 23 = .ok (.athrow, 1) := by decide +kernel
theorem dX5_checkRoom_24 : decode cX5_checkRoom 24 = .ok (.return_, 1) := by decide +kernel
theorem dX5_swapResultAndDraft_0 : decode cX5_swapResultAndDraft 0 = .ok (.aload_n 0, 1) := by decide +kernel
theorem dX5_swapResultAndDraft_1 : decode cX5_swapResultAndDraft 1 = .ok (.getfield 58, 3) := by decide +kernel
theorem dX5_swapResultAndDraft_4 : decode cX5_swapResultAndDraft 4 = .ok (.astore_n 1, 1) := by decide +kernel
theorem dX5_swapResultAndDraft_5 : decode cX5_swapResultAndDraft 5 = .ok (.aload_n 0, 1) := by decide +kernel
theorem dX5_swapResultAndDraft_6 : decode cX5_swapResultAndDraft 6 = .ok (.aload_n 0, 1) := by decide +kernel
theorem dX5_swapResultAndDraft_7 : decode cX5_swapResultAndDraft 7 = .ok (.getfield 62, 3) := by decide +kernel
theorem dX5_swapResultAndDraft_10 : decode cX5_swapResultAndDraft 10 = .ok (.putfield 58, 3) := by decide +kernel
theorem dX5_swapResultAndDraft_13 : decode cX5_swapResultAndDraft 13 = .ok (.aload_n 0, 1) := by decide +kernel
theorem dX5_swapResultAndDraft_14 : decode cX5_swapResultAndDraft 14 = .ok (.aload_n 1, 1) := by decide +kernel
theorem dX5_swapResultAndDraft_15 : decode cX5_swapResultAndDraft 15 = .ok (.putfield 62, 3) := by decide +kernel
theorem dX5_swapResultAndDraft_18 : decode cX5_swapResultAndDraft 18 = .ok (.return_, 1) := by decide +kernel
theorem dX6_init_0 : decode cX6_init 0 = .ok (.aload_n 0, 1) := by decide +kernel
theorem dX6_init_1 : decode cX6_init 1 = .ok (.invokespecial 1, 3) := by decide +kernel
theorem dX6_init_4 : decode cX6_init 4 = .ok (.aload_n 0, 1) := by decide +kernel
theorem dX6_init_5 : decode cX6_init 5 = .ok (.iconst 3, 1) := by decide +kernel
theorem dX6_init_6 : decode cX6_init 6 = .ok (.newarray .int, 2) := by decide +kernel
theorem dX6_init_8 : decode cX6_init 8 = .ok (.putfield 7, 3) := by decide +kernel
theorem dX6_init_11 : decode cX6_init 11 = .ok (.aload_n 0, 1) := by decide +kernel
theorem dX6_init_12 : decode cX6_init 12 = .ok (.bipush 60, 2) := by decide +kernel
theorem dX6_init_14 : decode cX6_init 14 = .ok (.newarray .int, 2) := by decide +kernel
theorem dX6_init_16 : decode cX6_init 16 = .ok (.putfield 13, 3) := by decide +kernel
theorem dX6_init_19 : decode cX6_init 19 = .ok (.aload_n 0, 1) := by decide +kernel
theorem dX6_init_20 : decode cX6_init 20 = .ok (.bipush 60, 2) := by decide +kernel
theorem dX6_init_22 : decode cX6_init 22 = .ok (.newarray .int, 2) := by decide +kernel
theorem dX6_init_24 : decode cX6_init 24 = .ok (.putfield 16, 3) := by decide +kernel
theorem dX6_init_27 : decode cX6_init 27 = .ok (.aload_n 0, 1) := by decide +kernel
theorem dX6_init_28 : decode cX6_init 28 = .ok (.bipush 60, 2) := by decide +kernel
theorem dX6_init_30 : decode cX6_init 30 = .ok (.newarray .int, 2) := by decide +kernel
theorem dX6_init_32 : decode cX6_init 32 = .ok (.putfield 19, 3) := by decide +kernel
theorem dX6_init_35 : decode cX6_init 35 = .ok (.aload_n 0, 1) := by decide +kernel
theorem dX6_init_36 : decode cX6_init 36 = .ok (.bipush 60, 2) := by decide +kernel
theorem dX6_init_38 : decode cX6_init 38 = .ok (.newarray .int, 2) := by decide +kernel
theorem dX6_init_40 : decode cX6_init 40 = .ok (.putfield 22, 3) := by decide +kernel
theorem dX6_init_43 : decode cX6_init 43 = .ok (.aload_n 0, 1) := by decide +kernel
theorem dX6_init_44 : decode cX6_init 44 = .ok (.bipush 60, 2) := by decide +kernel
theorem dX6_init_46 : decode cX6_init 46 = .ok (.newarray .int, 2) := by decide +kernel
theorem dX6_init_48 : decode cX6_init 48 = .ok (.putfield 25, 3) := by decide +kernel
theorem dX6_init_51 : decode cX6_init 51 = .ok (.aload_n 0, 1) := by decide +kernel
theorem dX6_init_52 : decode cX6_init 52 = .ok (.bipush 60, 2) := by decide +kernel
theorem dX6_init_54 : decode cX6_init 54 = .ok (.newarray .int, 2) := by decide +kernel
theorem dX6_init_56 : decode cX6_init 56 = .ok (.putfield 28, 3) := by decide +kernel
theorem dX6_init_59 : decode cX6_init 59 = .ok (.aload_n 0, 1) := by decide +kernel
theorem dX6_init_60 : decode cX6_init 60 = .ok (.sipush 128, 3) := by decide +kernel
theorem dX6_init_63 : decode cX6_init 63 = .ok (.newarray .int, 2) := by decide +kernel
theorem dX6_init_65 : decode cX6_init 65 = .ok (.putfield 31, 3) := by decide +kernel
theorem dX6_init_68 : decode cX6_init 68 = .ok (.aload_n 0, 1) := by decide +kernel
theorem dX6_init_69 : decode cX6_init 69 = .ok (.sipush 441, 3) := by decide +kernel
theorem dX6_init_72 : decode cX6_init 72 = .ok (.newarray .int, 2) := by decide +kernel
theorem dX6_init_74 : decode cX6_init 74 = .ok (.putfield 34, 3) := by decide +kernel
theorem dX6_init_77 : decode cX6_init 77 = .ok (.aload_n 0, 1) := by decide +kernel
theorem dX6_init_78 : decode cX6_init 78 = .ok (.bipush 20, 2) := by decide +kernel
theorem dX6_init_80 : decode cX6_init 80 = .ok (.newarray .int, 2) := by decide +kernel
theorem dX6_init_82 : decode cX6_init 82 = .ok (.putfield 37, 3) := by decide +kernel
theorem dX6_init_85 : decode cX6_init 85 = .ok (.aload_n 0, 1) := by decide +kernel
theorem dX6_init_86 : decode cX6_init 86 = .ok (.bipush 20, 2) := by decide +kernel
theorem dX6_init_88 : decode cX6_init 88 = .ok (.newarray .int, 2) := by decide +kernel
theorem dX6_init_90 : decode cX6_init 90 = .ok (.putfield 40, 3) := by decide +kernel
theorem dX6_init_93 : decode cX6_init 93 = .ok (.aload_n 0, 1) := by decide +kernel
theorem dX6_init_94 : decode cX6_init 94 = .ok (.iconst 4, 1) := by decide +kernel
theorem dX6_init_95 : decode cX6_init 95 = .ok (.newarray .int, 2) := by decide +kernel
theorem dX6_init_97 : decode cX6_init 97 = .ok (.putfield 43, 3) := by decide +kernel
theorem dX6_init_100 : decode cX6_init 100 = .ok (.aload_n 0, 1) := by decide +kernel
theorem dX6_init_101 : decode cX6_init 101 = .ok (.iload_n 1, 1) := by decide +kernel
theorem dX6_init_102 : decode cX6_init 102 = .ok (.ifCond .ge 7, 3) := by decide +kernel
theorem dX6_init_105 : decode cX6_init 105 = .ok (.iconst 0, 1) := by decide +kernel
theorem dX6_init_106 : decode cX6_init 106 = .ok (.goto 15, 3) := by decide +kernel
theorem dX6_init_109 : decode cX6_init 109 = .ok (.iload_n 1, 1) := by decide +kernel
theorem dX6_init_110 : decode cX6_init 110 = .ok (.bipush 40, 2) := by decide +kernel
theorem dX6_init_112 : decode cX6_init 112 = .ok (.if_icmp .le 8, 3) := by decide +kernel
theorem dX6_init_115 : decode cX6_init 115 = .ok (.bipush 40, 2) := by decide +kernel
theorem dX6_init_117 : decode cX6_init 117 = .ok (.goto 4, 3) := by decide +kernel
theorem dX6_init_120 : decode cX6_init 120 = .ok (.iload_n 1, 1) := by decide +kernel
theorem dX6_init_121 : decode cX6_init 121 = .ok (.putfield 46, 3) := by decide +kernel
theorem dX6_init_124 : decode cX6_init 124 = .ok (.return_, 1) := by decide +kernel
theorem dX6_thrown_0 : decode cX6_thrown 0 = .ok (.aload_n 0, 1) := by decide +kernel
theorem dX6_thrown_1 : decode cX6_thrown 1 = .ok (.getfield 50, 3) := by decide +kernel
theorem dX6_thrown_4 : decode cX6_thrown 4 = .ok (.ireturn, 1) := by decide +kernel
theorem dX6_isRow_0 : decode cX6_isRow 0 = .ok (.iload_n 0, 1) := by decide +kernel
theorem dX6_isRow_1 : decode cX6_isRow 1 = .ok (.ifCond .lt 12, 3) := by decide +kernel
theorem dX6_isRow_4 : decode cX6_isRow 4 = .ok (.iload_n 0, 1) := by decide +kernel
theorem dX6_isRow_5 : decode cX6_isRow 5 = .ok (.iconst 2, 1) := by decide +kernel
theorem dX6_isRow_6 : decode cX6_isRow 6 = .ok (.if_icmp .gt 7, 3) := by decide +kernel
theorem dX6_isRow_9 : decode cX6_isRow 9 = .ok (.iconst 1, 1) := by decide +kernel
theorem dX6_isRow_10 : decode cX6_isRow 10 = .ok (.goto 4, 3) := by decide +kernel
theorem dX6_isRow_13 : decode cX6_isRow 13 = .ok (.iconst 0, 1) := by decide +kernel
theorem dX6_isRow_14 : decode cX6_isRow 14 = .ok (.ireturn, 1) := by decide +kernel
set_option maxRecDepth 20000 in
theorem ggX6_feed_X6_isRow : GoodIn wsX6_feed wsX6_isRow := goodIn_r _ [7] (by decide +kernel) (by decide +kernel)
set_option maxRecDepth 20000 in
theorem gX6_feed_X6_isRow : GoodIn wsX6_feed (va_wsS RX6 53 yX6_isRow wsX6_isRow) := goodIn_app (goodIn_of _ (by decide +kernel)) ggX6_feed_X6_isRow
theorem dX6_feed_0 : decode cX6_feed 0 = .ok (.aload_n 0, 1) := by decide +kernel
theorem dX6_feed_1 : decode cX6_feed 1 = .ok (.iconst 0, 1) := by decide +kernel
theorem dX6_feed_2 : decode cX6_feed 2 = .ok (.putfield 50, 3) := by decide +kernel
theorem dX6_feed_5 : decode cX6_feed 5 = .ok (.iload_n 1, 1) := by decide +kernel
theorem dX6_feed_6 : decode cX6_feed 6 = .ok (.invokestatic 53, 3) := by decide +kernel
theorem dX6_feed_9 : decode cX6_feed 9 = .ok (.ifCond .eq 25, 3) := by decide +kernel
theorem dX6_feed_12 : decode cX6_feed 12 = .ok (.iload_n 2, 1) := by decide +kernel
theorem dX6_feed_13 : decode cX6_feed 13 = .ok (.ifCond .lt 21, 3) := by decide +kernel
theorem dX6_feed_16 : decode cX6_feed 16 = .ok (.iload_n 2, 1) := by decide +kernel
theorem dX6_feed_17 : decode cX6_feed 17 = .ok (.sipush 30000, 3) := by decide +kernel
theorem dX6_feed_20 : decode cX6_feed 20 = .ok (.if_icmp .gt 14, 3) := by decide +kernel
theorem dX6_feed_23 : decode cX6_feed 23 = .ok (.aload_n 0, 1) := by decide +kernel
theorem dX6_feed_24 : decode cX6_feed 24 = .ok (.getfield 7, 3) := by decide +kernel
theorem dX6_feed_27 : decode cX6_feed 27 = .ok (.iload_n 1, 1) := by decide +kernel
theorem dX6_feed_28 : decode cX6_feed 28 = .ok (.iaload, 1) := by decide +kernel
theorem dX6_feed_29 : decode cX6_feed 29 = .ok (.bipush 20, 2) := by decide +kernel
theorem dX6_feed_31 : decode cX6_feed 31 = .ok (.if_icmp .ne 5, 3) := by decide +kernel
theorem dX6_feed_34 : decode cX6_feed 34 = .ok (.iconst 0, 1) := by decide +kernel
theorem dX6_feed_35 : decode cX6_feed 35 = .ok (.ireturn, 1) := by decide +kernel
theorem dX6_feed_36 : decode cX6_feed 36 = .ok (.aload_n 0, 1) := by decide +kernel
theorem dX6_feed_37 : decode cX6_feed 37 = .ok (.getfield 13, 3) := by decide +kernel
theorem dX6_feed_40 : decode cX6_feed 40 = .ok (.bipush 20, 2) := by decide +kernel
theorem dX6_feed_42 : decode cX6_feed 42 = .ok (.iload_n 1, 1) := by decide +kernel
theorem dX6_feed_43 : decode cX6_feed 43 = .ok (.imul, 1) := by decide +kernel
theorem dX6_feed_44 : decode cX6_feed 44 = .ok (.aload_n 0, 1) := by decide +kernel
theorem dX6_feed_45 : decode cX6_feed 45 = .ok (.getfield 7, 3) := by decide +kernel
theorem dX6_feed_48 : decode cX6_feed 48 = .ok (.iload_n 1, 1) := by decide +kernel
theorem dX6_feed_49 : decode cX6_feed 49 = .ok (.iaload, 1) := by decide +kernel
theorem dX6_feed_50 : decode cX6_feed 50 = .ok (.iadd, 1) := by decide +kernel
theorem dX6_feed_51 : decode cX6_feed 51 = .ok (.iload_n 2, 1) := by decide +kernel
theorem dX6_feed_52 : decode cX6_feed 52 = .ok (.iastore, 1) := by decide +kernel
theorem dX6_feed_53 : decode cX6_feed 53 = .ok (.aload_n 0, 1) := by decide +kernel
theorem dX6_feed_54 : decode cX6_feed 54 = .ok (.getfield 7, 3) := by decide +kernel
theorem dX6_feed_57 : decode cX6_feed 57 = .ok (.iload_n 1, 1) := by decide +kernel
theorem dX6_feed_58 : decode cX6_feed 58 = .ok (.dup2, 1) := by decide +kernel
theorem dX6_feed_59 : decode cX6_feed 59 = .ok (.iaload, 1) := by decide +kernel
theorem dX6_feed_60 : decode cX6_feed 60 = .ok (.iconst 1, 1) := by decide +kernel
theorem dX6_feed_61 : decode cX6_feed 61 = .ok (.iadd, 1) := by decide +kernel
theorem dX6_feed_62 : decode cX6_feed 62 = .ok (.iastore, 1) := by decide +kernel
theorem dX6_feed_63 : decode cX6_feed 63 = .ok (.iconst 1, 1) := by decide +kernel
theorem dX6_feed_64 : decode cX6_feed 64 = .ok (.ireturn, 1) := by decide +kernel
