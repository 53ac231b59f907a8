set_option maxRecDepth 20000 in
theorem ggX6_merge_X6_keep : GoodIn wsX6_merge wsX6_keep := goodIn_r _ [11, 5, 12, 13, 14, 10, 15, 16, 17, 18, 19, 20, 6, 21, 22, 23, 24, 42, 43, 44, 45, 46, 47, 48, 49, 50, 51, 52, 53, 54, 55, 56, 57, 58, 59, 60] (by decide +kernel) (by decide +kernel)
set_option maxRecDepth 20000 in
theorem gX6_merge_X6_keep : GoodIn wsX6_merge (wsV RX6 108 RX6 yX6_keep wsX6_keep) := goodIn_app (goodIn_of _ (by decide +kernel)) ggX6_merge_X6_keep
set_option maxRecDepth 20000 in
theorem ggX6_merge_X6_between : GoodIn wsX6_merge wsX6_between := goodIn_r _ [28, 29, 30, 31, 10, 32, 17, 18, 19, 20, 6, 33, 34, 35, 36, 37, 38, 39, 40, 41, 4, 42, 43, 44, 45, 46, 47, 48, 49, 50, 51, 52, 53, 54, 55, 56, 57, 58, 59, 60] (by decide +kernel) (by decide +kernel)
set_option maxRecDepth 20000 in
theorem gX6_merge_X6_between : GoodIn wsX6_merge (wsV RX6 112 RX6 yX6_between wsX6_between) := goodIn_app (goodIn_of _ (by decide +kernel)) ggX6_merge_X6_between
set_option maxRecDepth 20000 in
theorem ggX6_merge_X6_take : GoodIn wsX6_merge wsX6_take := goodIn_r _ [40, 41, 4, 42, 43, 44, 45, 46, 47, 48, 49, 50, 51, 52, 53, 54, 55, 56, 57, 58, 59, 60] (by decide +kernel) (by decide +kernel)
set_option maxRecDepth 20000 in
theorem gX6_merge_X6_take : GoodIn wsX6_merge (wsV RX6 97 RX6 yX6_take wsX6_take) := goodIn_app (goodIn_of _ (by decide +kernel)) ggX6_merge_X6_take
theorem dX6_merge_0 : decode cX6_merge 0 = .ok (.aload_n 0, 1) := by decide +kernel
theorem dX6_merge_1 : decode cX6_merge 1 = .ok (.iconst 0, 1) := by decide +kernel
theorem dX6_merge_2 : decode cX6_merge 2 = .ok (.putfield 50, 3) := by decide +kernel
theorem dX6_merge_5 : decode cX6_merge 5 = .ok (.aload_n 0, 1) := by decide +kernel
theorem dX6_merge_6 : decode cX6_merge 6 = .ok (.iconst 1, 1) := by decide +kernel
theorem dX6_merge_7 : decode cX6_merge 7 = .ok (.aload_n 0, 1) := by decide +kernel
theorem dX6_merge_8 : decode cX6_merge 8 = .ok (.getfield 37, 3) := by decide +kernel
theorem dX6_merge_11 : decode cX6_merge 11 = .ok (.invokevirtual 108, 3) := by decide +kernel
theorem dX6_merge_14 : decode cX6_merge 14 = .ok (.aload_n 0, 1) := by decide +kernel
theorem dX6_merge_15 : decode cX6_merge 15 = .ok (.iconst 2, 1) := by decide +kernel
theorem dX6_merge_16 : decode cX6_merge 16 = .ok (.aload_n 0, 1) := by decide +kernel
theorem dX6_merge_17 : decode cX6_merge 17 = .ok (.getfield 40, 3) := by decide +kernel
theorem dX6_merge_20 : decode cX6_merge 20 = .ok (.invokevirtual 108, 3) := by decide +kernel
theorem dX6_merge_23 : decode cX6_merge 23 = .ok (.aload_n 0, 1) := by decide +kernel
theorem dX6_merge_24 : decode cX6_merge 24 = .ok (.iconst 0, 1) := by decide +kernel
theorem dX6_merge_25 : decode cX6_merge 25 = .ok (.putfield 90, 3) := by decide +kernel
theorem dX6_merge_28 : decode cX6_merge 28 = .ok (.iconst 0, 1) := by decide +kernel
theorem dX6_merge_29 : decode cX6_merge 29 = .ok (.istore_n 1, 1) := by decide +kernel
theorem dX6_merge_30 : decode cX6_merge 30 = .ok (.iconst 0, 1) := by decide +kernel
theorem dX6_merge_31 : decode cX6_merge 31 = .ok (.istore_n 2, 1) := by decide +kernel
theorem dX6_merge_32 : decode cX6_merge 32 = .ok (.iconst 0, 1) := by decide +kernel
theorem dX6_merge_33 : decode cX6_merge 33 = .ok (.istore_n 3, 1) := by decide +kernel
theorem dX6_merge_34 : decode cX6_merge 34 = .ok (.iconst 0, 1) := by decide +kernel
theorem dX6_merge_35 : decode cX6_merge 35 = .ok (.istore 4, 2) := by decide +kernel
theorem dX6_merge_37 : decode cX6_merge 37 = .ok (.iconst 0, 1) := by decide +kernel
theorem dX6_merge_38 : decode cX6_merge 38 = .ok (.istore 5, 2) := by decide +kernel
theorem dX6_merge_40 : decode cX6_merge 40 = .ok (.iload 5, 2) := by decide +kernel
theorem dX6_merge_42 : decode cX6_merge 42 = .ok (.aload_n 0, 1) := by decide +kernel
theorem dX6_merge_43 : decode cX6_merge 43 = .ok (.getfield 7, 3) := by decide +kernel
theorem dX6_merge_46 : decode cX6_merge 46 = .ok (.iconst 0, 1) := by decide +kernel
theorem dX6_merge_47 : decode cX6_merge 47 = .ok (.iaload, 1) := by decide +kernel
theorem dX6_merge_48 : decode cX6_merge 48 = .ok (.if_icmp .gt 151, 3) := by decide +kernel
theorem dX6_merge_51 : decode cX6_merge 51 = .ok (.iload 5, 2) := by decide +kernel
theorem dX6_merge_53 : decode cX6_merge 53 = .ok (.aload_n 0, 1) := by decide +kernel
theorem dX6_merge_54 : decode cX6_merge 54 = .ok (.getfield 7, 3) := by decide +kernel
theorem dX6_merge_57 : decode cX6_merge 57 = .ok (.iconst 0, 1) := by decide +kernel
theorem dX6_merge_58 : decode cX6_merge 58 = .ok (.iaload, 1) := by decide +kernel
theorem dX6_merge_59 : decode cX6_merge 59 = .ok (.if_icmp .ne 7, 3) := by decide +kernel
theorem dX6_merge_62 : decode cX6_merge 62 = .ok (.iconst 1, 1) := by decide +kernel
theorem dX6_merge_63 : decode cX6_merge 63 = .ok (.goto 4, 3) := by decide +kernel
theorem dX6_merge_66 : decode cX6_merge 66 = .ok (.iconst 0, 1) := by decide +kernel
theorem dX6_merge_67 : decode cX6_merge 67 = .ok (.istore 6, 2) := by decide +kernel
theorem dX6_merge_69 : decode cX6_merge 69 = .ok (.iload 6, 2) := by decide +kernel
theorem dX6_merge_71 : decode cX6_merge 71 = .ok (.ifCond .ne 23, 3) := by decide +kernel
theorem dX6_merge_74 : decode cX6_merge 74 = .ok (.aload_n 0, 1) := by decide +kernel
theorem dX6_merge_75 : decode cX6_merge 75 = .ok (.getfield 37, 3) := by decide +kernel
theorem dX6_merge_78 : decode cX6_merge 78 = .ok (.iload 5, 2) := by decide +kernel
theorem dX6_merge_80 : decode cX6_merge 80 = .ok (.iaload, 1) := by decide +kernel
theorem dX6_merge_81 : decode cX6_merge 81 = .ok (.ifCond .le 112, 3) := by decide +kernel
theorem dX6_merge_84 : decode cX6_merge 84 = .ok (.aload_n 0, 1) := by decide +kernel
theorem dX6_merge_85 : decode cX6_merge 85 = .ok (.getfield 40, 3) := by decide +kernel
theorem dX6_merge_88 : decode cX6_merge 88 = .ok (.iload 5, 2) := by decide +kernel
theorem dX6_merge_90 : decode cX6_merge 90 = .ok (.iaload, 1) := by decide +kernel
theorem dX6_merge_91 : decode cX6_merge 91 = .ok (.ifCond .le 102, 3) := by decide +kernel
theorem dX6_merge_94 : decode cX6_merge 94 = .ok (.iload 6, 2) := by decide +kernel
theorem dX6_merge_96 : decode cX6_merge 96 = .ok (.ifCond .eq 12, 3) := by decide +kernel
theorem dX6_merge_99 : decode cX6_merge 99 = .ok (.aload_n 0, 1) := by decide +kernel
theorem dX6_merge_100 : decode cX6_merge 100 = .ok (.getfield 7, 3) := by decide +kernel
theorem dX6_merge_103 : decode cX6_merge 103 = .ok (.iconst 1, 1) := by decide +kernel
theorem dX6_merge_104 : decode cX6_merge 104 = .ok (.iaload, 1) := by decide +kernel
theorem dX6_merge_105 : decode cX6_merge 105 = .ok (.goto 12, 3) := by decide +kernel
theorem dX6_merge_108 : decode cX6_merge 108 = .ok (.aload_n 0, 1) := by decide +kernel
theorem dX6_merge_109 : decode cX6_merge 109 = .ok (.getfield 37, 3) := by decide +kernel
theorem dX6_merge_112 : decode cX6_merge 112 = .ok (.iload 5, 2) := by decide +kernel
theorem dX6_merge_114 : decode cX6_merge 114 = .ok (.iaload, 1) := by decide +kernel
theorem dX6_merge_115 : decode cX6_merge 115 = .ok (.iconst 1, 1) := by decide +kernel
theorem dX6_merge_116 : decode cX6_merge 116 = .ok (.isub, 1) := by decide +kernel
theorem dX6_merge_117 : decode cX6_merge 117 = .ok (.istore 7, 2) := by decide +kernel
theorem dX6_merge_119 : decode cX6_merge 119 = .ok (.iload 6, 2) := by decide +kernel
theorem dX6_merge_121 : decode cX6_merge 121 = .ok (.ifCond .eq 12, 3) := by decide +kernel
theorem dX6_merge_124 : decode cX6_merge 124 = .ok (.aload_n 0, 1) := by decide +kernel
theorem dX6_merge_125 : decode cX6_merge 125 = .ok (.getfield 7, 3) := by decide +kernel
theorem dX6_merge_128 : decode cX6_merge 128 = .ok (.iconst 2, 1) := by decide +kernel
theorem dX6_merge_129 : decode cX6_merge 129 = .ok (.iaload, 1) := by decide +kernel
theorem dX6_merge_130 : decode cX6_merge 130 = .ok (.goto 12, 3) := by decide +kernel
theorem dX6_merge_133 : decode cX6_merge 133 = .ok (.aload_n 0, 1) := by decide +kernel
theorem dX6_merge_134 : decode cX6_merge 134 = .ok (.getfield 40, 3) := by decide +kernel
theorem dX6_merge_137 : decode cX6_merge 137 = .ok (.iload 5, 2) := by decide +kernel
theorem dX6_merge_139 : decode cX6_merge 139 = .ok (.iaload, 1) := by decide +kernel
theorem dX6_merge_140 : decode cX6_merge 140 = .ok (.iconst 1, 1) := by decide +kernel
theorem dX6_merge_141 : decode cX6_merge 141 = .ok (.isub, 1) := by decide +kernel
theorem dX6_merge_142 : decode cX6_merge 142 = .ok (.istore 8, 2) := by decide +kernel
theorem dX6_merge_144 : decode cX6_merge 144 = .ok (.iload_n 1, 1) := by decide +kernel
theorem dX6_merge_145 : decode cX6_merge 145 = .ok (.aload_n 0, 1) := by decide +kernel
theorem dX6_merge_146 : decode cX6_merge 146 = .ok (.iload_n 2, 1) := by decide +kernel
theorem dX6_merge_147 : decode cX6_merge 147 = .ok (.iload 5, 2) := by decide +kernel
theorem dX6_merge_149 : decode cX6_merge 149 = .ok (.iload_n 3, 1) := by decide +kernel
theorem dX6_merge_150 : decode cX6_merge 150 = .ok (.iload 7, 2) := by decide +kernel
theorem dX6_merge_152 : decode cX6_merge 152 = .ok (.iload 4, 2) := by decide +kernel
theorem dX6_merge_154 : decode cX6_merge 154 = .ok (.iload 8, 2) := by decide +kernel
theorem dX6_merge_156 : decode cX6_merge 156 = .ok (.invokevirtual 112, 3) := by decide +kernel
theorem dX6_merge_159 : decode cX6_merge 159 = .ok (.iadd, 1) := by decide +kernel
theorem dX6_merge_160 : decode cX6_merge 160 = .ok (.istore_n 1, 1) := by decide +kernel
theorem dX6_merge_161 : decode cX6_merge 161 = .ok (.iload 6, 2) := by decide +kernel
theorem dX6_merge_163 : decode cX6_merge 163 = .ok (.ifCond .ne 14, 3) := by decide +kernel
theorem dX6_merge_166 : decode cX6_merge 166 = .ok (.aload_n 0, 1) := by decide +kernel
theorem dX6_merge_167 : decode cX6_merge 167 = .ok (.aload_n 0, 1) := by decide +kernel
theorem dX6_merge_168 : decode cX6_merge 168 = .ok (.getfield 13, 3) := by decide +kernel
theorem dX6_merge_171 : decode cX6_merge 171 = .ok (.iload 5, 2) := by decide +kernel
theorem dX6_merge_173 : decode cX6_merge 173 = .ok (.iaload, 1) := by decide +kernel
theorem dX6_merge_174 : decode cX6_merge 174 = .ok (.invokevirtual 97, 3) := by decide +kernel
theorem dX6_merge_177 : decode cX6_merge 177 = .ok (.iload 5, 2) := by decide +kernel
theorem dX6_merge_179 : decode cX6_merge 179 = .ok (.iconst 1, 1) := by decide +kernel
theorem dX6_merge_180 : decode cX6_merge 180 = .ok (.iadd, 1) := by decide +kernel
theorem dX6_merge_181 : decode cX6_merge 181 = .ok (.istore_n 2, 1) := by decide +kernel
theorem dX6_merge_182 : decode cX6_merge 182 = .ok (.iload 7, 2) := by decide +kernel
theorem dX6_merge_184 : decode cX6_merge 184 = .ok (.iconst 1, 1) := by decide +kernel
theorem dX6_merge_185 : decode cX6_merge 185 = .ok (.iadd, 1) := by decide +kernel
theorem dX6_merge_186 : decode cX6_merge 186 = .ok (.istore_n 3, 1) := by decide +kernel
theorem dX6_merge_187 : decode cX6_merge 187 = .ok (.iload 8, 2) := by decide +kernel
theorem dX6_merge_189 : decode cX6_merge 189 = .ok (.iconst 1, 1) := by decide +kernel
theorem dX6_merge_190 : decode cX6_merge 190 = .ok (.iadd, 1) := by decide +kernel
theorem dX6_merge_191 : decode cX6_merge 191 = .ok (.istore 4, 2) := by decide +kernel
theorem dX6_merge_193 : decode cX6_merge 193 = .ok (.iinc 5 1, 3) := by decide +kernel
theorem dX6_merge_196 : decode cX6_merge 196 = .ok (.goto (-156), 3) := by decide +kernel
theorem dX6_merge_199 : decode cX6_merge 199 = .ok (.iload_n 1, 1) := by decide +kernel
theorem dX6_merge_200 : decode cX6_merge 200 = .ok (.ireturn, 1) := by decide +kernel
theorem dX6_result_0 : decode cX6_result 0 = .ok (.aload_n 0, 1) := by decide +kernel
theorem dX6_result_1 : decode cX6_result 1 = .ok (.iconst 0, 1) := by decide +kernel
theorem dX6_result_2 : decode cX6_result 2 = .ok (.putfield 50, 3) := by decide +kernel
theorem dX6_result_5 : decode cX6_result 5 = .ok (.iload_n 1, 1) := by decide +kernel
theorem dX6_result_6 : decode cX6_result 6 = .ok (.ifCond .lt 20, 3) := by decide +kernel
theorem dX6_result_9 : decode cX6_result 9 = .ok (.iload_n 1, 1) := by decide +kernel
theorem dX6_result_10 : decode cX6_result 10 = .ok (.aload_n 0, 1) := by decide +kernel
theorem dX6_result_11 : decode cX6_result 11 = .ok (.getfield 90, 3) := by decide +kernel
theorem dX6_result_14 : decode cX6_result 14 = .ok (.if_icmp .ge 12, 3) := by decide +kernel
theorem dX6_result_17 : decode cX6_result 17 = .ok (.aload_n 0, 1) := by decide +kernel
theorem dX6_result_18 : decode cX6_result 18 = .ok (.getfield 31, 3) := by decide +kernel
theorem dX6_result_21 : decode cX6_result 21 = .ok (.iload_n 1, 1) := by decide +kernel
theorem dX6_result_22 : decode cX6_result 22 = .ok (.iaload, 1) := by decide +kernel
theorem dX6_result_23 : decode cX6_result 23 = .ok (.goto 5, 3) := by decide +kernel
theorem dX6_result_26 : decode cX6_result 26 = .ok (.bipush (-40), 2) := by decide +kernel
theorem dX6_result_28 : decode cX6_result 28 = .ok (.ireturn, 1) := by decide +kernel
theorem dX6_results_0 : decode cX6_results 0 = .ok (.aload_n 0, 1) := by decide +kernel
theorem dX6_results_1 : decode cX6_results 1 = .ok (.iconst 0, 1) := by decide +kernel
theorem dX6_results_2 : decode cX6_results 2 = .ok (.putfield 50, 3) := by decide +kernel
theorem dX6_results_5 : decode cX6_results 5 = .ok (.aload_n 0, 1) := by decide +kernel
theorem dX6_results_6 : decode cX6_results 6 = .ok (.getfield 90, 3) := by decide +kernel
theorem dX6_results_9 : decode cX6_results 9 = .ok (.ireturn, 1) := by decide +kernel
theorem dX6_together_0 : decode cX6_together 0 = .ok (.aload_n 0, 1) := by decide +kernel
theorem dX6_together_1 : decode cX6_together 1 = .ok (.getfield 28, 3) := by decide +kernel
theorem dX6_together_4 : decode cX6_together 4 = .ok (.iload_n 1, 1) := by decide +kernel
theorem dX6_together_5 : decode cX6_together 5 = .ok (.iaload, 1) := by decide +kernel
theorem dX6_together_6 : decode cX6_together 6 = .ok (.aload_n 0, 1) := by decide +kernel
theorem dX6_together_7 : decode cX6_together 7 = .ok (.getfield 28, 3) := by decide +kernel
theorem dX6_together_10 : decode cX6_together 10 = .ok (.iload_n 1, 1) := by decide +kernel
theorem dX6_together_11 : decode cX6_together 11 = .ok (.iconst 1, 1) := by decide +kernel
theorem dX6_together_12 : decode cX6_together 12 = .ok (.isub, 1) := by decide +kernel
theorem dX6_together_13 : decode cX6_together 13 = .ok (.iaload, 1) := by decide +kernel
theorem dX6_together_14 : decode cX6_together 14 = .ok (.isub, 1) := by decide +kernel
theorem dX6_together_15 : decode cX6_together 15 = .ok (.aload_n 0, 1) := by decide +kernel
theorem dX6_together_16 : decode cX6_together 16 = .ok (.getfield 25, 3) := by decide +kernel
theorem dX6_together_19 : decode cX6_together 19 = .ok (.iload_n 1, 1) := by decide +kernel
theorem dX6_together_20 : decode cX6_together 20 = .ok (.iconst 1, 1) := by decide +kernel
theorem dX6_together_21 : decode cX6_together 21 = .ok (.isub, 1) := by decide +kernel
theorem dX6_together_22 : decode cX6_together 22 = .ok (.iaload, 1) := by decide +kernel
theorem dX6_together_23 : decode cX6_together 23 = .ok (.ifCond .ne 7, 3) := by decide +kernel
theorem dX6_together_26 : decode cX6_together 26 = .ok (.iconst 1, 1) := by decide +kernel
theorem dX6_together_27 : decode cX6_together 27 = .ok (.goto 4, 3) := by decide +kernel
theorem dX6_together_30 : decode cX6_together 30 = .ok (.iconst 0, 1) := by decide +kernel
theorem dX6_together_31 : decode cX6_together 31 = .ok (.isub, 1) := by decide +kernel
theorem dX6_together_32 : decode cX6_together 32 = .ok (.istore_n 3, 1) := by decide +kernel
theorem dX6_together_33 : decode cX6_together 33 = .ok (.iload_n 3, 1) := by decide +kernel
theorem dX6_together_34 : decode cX6_together 34 = .ok (.iconst 2, 1) := by decide +kernel
theorem dX6_together_35 : decode cX6_together 35 = .ok (.iload_n 2, 1) := by decide +kernel
theorem dX6_together_36 : decode cX6_together 36 = .ok (.imul, 1) := by decide +kernel
theorem dX6_together_37 : decode cX6_together 37 = .ok (.if_icmp .gt 7, 3) := by decide +kernel
theorem dX6_together_40 : decode cX6_together 40 = .ok (.iconst 1, 1) := by decide +kernel
theorem dX6_together_41 : decode cX6_together 41 = .ok (.goto 4, 3) := by decide +kernel
theorem dX6_together_44 : decode cX6_together 44 = .ok (.iconst 0, 1) := by decide +kernel
theorem dX6_together_45 : decode cX6_together 45 = .ok (.ireturn, 1) := by decide +kernel
set_option maxRecDepth 20000 in
theorem ggX6_countHunks_X6_together : GoodIn wsX6_countHunks wsX6_together := goodIn_r _ [6, 7, 8, 9, 10, 11, 12, 13, 14, 15, 16, 17, 18, 19, 20, 21, 22, 23, 24, 25, 26, 27] (by decide +kernel) (by decide +kernel)
set_option maxRecDepth 20000 in
theorem gX6_countHunks_X6_together : GoodIn wsX6_countHunks (wsV RX6 116 RX6 yX6_together wsX6_together) := goodIn_app (goodIn_of _ (by decide +kernel)) ggX6_countHunks_X6_together
theorem dX6_countHunks_0 : decode cX6_countHunks 0 = .ok (.aload_n 0, 1) := by decide +kernel
theorem dX6_countHunks_1 : decode cX6_countHunks 1 = .ok (.getfield 80, 3) := by decide +kernel
theorem dX6_countHunks_4 : decode cX6_countHunks 4 = .ok (.ifCond .le 7, 3) := by decide +kernel
theorem dX6_countHunks_7 : decode cX6_countHunks 7 = .ok (.iconst 1, 1) := by decide +kernel
theorem dX6_countHunks_8 : decode cX6_countHunks 8 = .ok (.goto 4, 3) := by decide +kernel
theorem dX6_countHunks_11 : decode cX6_countHunks 11 = .ok (.iconst 0, 1) := by decide +kernel
theorem dX6_countHunks_12 : decode cX6_countHunks 12 = .ok (.istore_n 2, 1) := by decide +kernel
theorem dX6_countHunks_13 : decode cX6_countHunks 13 = .ok (.iconst 1, 1) := by decide +kernel
theorem dX6_countHunks_14 : decode cX6_countHunks 14 = .ok (.istore_n 3, 1) := by decide +kernel
theorem dX6_countHunks_15 : decode cX6_countHunks 15 = .ok (.iload_n 3, 1) := by decide +kernel
theorem dX6_countHunks_16 : decode cX6_countHunks 16 = .ok (.aload_n 0, 1) := by decide +kernel
theorem dX6_countHunks_17 : decode cX6_countHunks 17 = .ok (.getfield 80, 3) := by decide +kernel
theorem dX6_countHunks_20 : decode cX6_countHunks 20 = .ok (.if_icmp .ge 26, 3) := by decide +kernel
theorem dX6_countHunks_23 : decode cX6_countHunks 23 = .ok (.aload_n 0, 1) := by decide +kernel
theorem dX6_countHunks_24 : decode cX6_countHunks 24 = .ok (.iload_n 3, 1) := by decide +kernel
theorem dX6_countHunks_25 : decode cX6_countHunks 25 = .ok (.iload_n 1, 1) := by decide +kernel
theorem dX6_countHunks_26 : decode cX6_countHunks 26 = .ok (.invokevirtual 116, 3) := by decide +kernel
theorem dX6_countHunks_29 : decode cX6_countHunks 29 = .ok (.ifCond .eq 7, 3) := by decide +kernel
theorem dX6_countHunks_32 : decode cX6_countHunks 32 = .ok (.iload_n 2, 1) := by decide +kernel
theorem dX6_countHunks_33 : decode cX6_countHunks 33 = .ok (.goto 6, 3) := by decide +kernel
theorem dX6_countHunks_36 : decode cX6_countHunks 36 = .ok (.iload_n 2, 1) := by decide +kernel
theorem dX6_countHunks_37 : decode cX6_countHunks 37 = .ok (.iconst 1, 1) := by decide +kernel
theorem dX6_countHunks_38 : decode cX6_countHunks 38 = .ok (.iadd, 1) := by decide +kernel
theorem dX6_countHunks_39 : decode cX6_countHunks 39 = .ok (.istore_n 2, 1) := by decide +kernel
theorem dX6_countHunks_40 : decode cX6_countHunks 40 = .ok (.iinc 3 1, 3) := by decide +kernel
theorem dX6_countHunks_43 : decode cX6_countHunks 43 = .ok (.goto (-28), 3) := by decide +kernel
theorem dX6_countHunks_46 : decode cX6_countHunks 46 = .ok (.iload_n 2, 1) := by decide +kernel
theorem dX6_countHunks_47 : decode cX6_countHunks 47 = .ok (.ireturn, 1) := by decide +kernel
set_option maxRecDepth 20000 in
theorem ggX6_hunks_X6_countHunks : GoodIn wsX6_hunks wsX6_countHunks := goodIn_r _ [7, 8, 9, 10, 11, 6, 12, 13, 14, 15, 16, 17, 18, 19, 20, 21, 22, 23, 24, 25, 26, 27, 28, 29, 30, 31, 32, 33] (by decide +kernel) (by decide +kernel)
set_option maxRecDepth 20000 in
theorem gX6_hunks_X6_countHunks : GoodIn wsX6_hunks (wsV RX6 120 RX6 yX6_countHunks wsX6_countHunks) := goodIn_app (goodIn_of _ (by decide +kernel)) ggX6_hunks_X6_countHunks
theorem dX6_hunks_0 : decode cX6_hunks 0 = .ok (.aload_n 0, 1) := by decide +kernel
theorem dX6_hunks_1 : decode cX6_hunks 1 = .ok (.iconst 0, 1) := by decide +kernel
theorem dX6_hunks_2 : decode cX6_hunks 2 = .ok (.putfield 50, 3) := by decide +kernel
theorem dX6_hunks_5 : decode cX6_hunks 5 = .ok (.aload_n 0, 1) := by decide +kernel
theorem dX6_hunks_6 : decode cX6_hunks 6 = .ok (.getfield 76, 3) := by decide +kernel
theorem dX6_hunks_9 : decode cX6_hunks 9 = .ok (.ifCond .eq 21, 3) := by decide +kernel
theorem dX6_hunks_12 : decode cX6_hunks 12 = .ok (.iload_n 1, 1) := by decide +kernel
theorem dX6_hunks_13 : decode cX6_hunks 13 = .ok (.ifCond .lt 17, 3) := by decide +kernel
theorem dX6_hunks_16 : decode cX6_hunks 16 = .ok (.iload_n 1, 1) := by decide +kernel
theorem dX6_hunks_17 : decode cX6_hunks 17 = .ok (.bipush 9, 2) := by decide +kernel
theorem dX6_hunks_19 : decode cX6_hunks 19 = .ok (.if_icmp .gt 11, 3) := by decide +kernel
theorem dX6_hunks_22 : decode cX6_hunks 22 = .ok (.aload_n 0, 1) := by decide +kernel
theorem dX6_hunks_23 : decode cX6_hunks 23 = .ok (.iload_n 1, 1) := by decide +kernel
theorem dX6_hunks_24 : decode cX6_hunks 24 = .ok (.invokevirtual 120, 3) := by decide +kernel
theorem dX6_hunks_27 : decode cX6_hunks 27 = .ok (.goto 4, 3) := by decide +kernel
theorem dX6_hunks_30 : decode cX6_hunks 30 = .ok (.iconst 0, 1) := by decide +kernel
theorem dX6_hunks_31 : decode cX6_hunks 31 = .ok (.ireturn, 1) := by decide +kernel
set_option maxRecDepth 20000 in
theorem ggX6_hunk_X6_countHunks : GoodIn wsX6_hunk wsX6_countHunks := goodIn_r _ [12, 4, 13, 14, 15, 11, 16, 5, 6, 17, 18, 19, 20, 21, 22, 23, 24, 25, 26, 27, 28, 29, 30, 31, 32, 33, 34, 35] (by decide +kernel) (by decide +kernel)
set_option maxRecDepth 20000 in
theorem gX6_hunk_X6_countHunks : GoodIn wsX6_hunk (wsV RX6 120 RX6 yX6_countHunks wsX6_countHunks) := goodIn_app (goodIn_of _ (by decide +kernel)) ggX6_hunk_X6_countHunks
set_option maxRecDepth 20000 in
theorem ggX6_hunk_X6_together : GoodIn wsX6_hunk wsX6_together := goodIn_r _ [16, 5, 6, 17, 18, 19, 20, 21, 22, 23, 24, 25, 26, 27, 28, 29, 30, 31, 32, 33, 34, 35] (by decide +kernel) (by decide +kernel)
set_option maxRecDepth 20000 in
theorem gX6_hunk_X6_together : GoodIn wsX6_hunk (wsV RX6 116 RX6 yX6_together wsX6_together) := goodIn_app (goodIn_of _ (by decide +kernel)) ggX6_hunk_X6_together
theorem dX6_hunk_0 : decode cX6_hunk 0 = .ok (.aload_n 0, 1) := by decide +kernel
theorem dX6_hunk_1 : decode cX6_hunk 1 = .ok (.iconst 0, 1) := by decide +kernel
theorem dX6_hunk_2 : decode cX6_hunk 2 = .ok (.putfield 50, 3) := by decide +kernel
theorem dX6_hunk_5 : decode cX6_hunk 5 = .ok (.aload_n 0, 1) := by decide +kernel
theorem dX6_hunk_6 : decode cX6_hunk 6 = .ok (.getfield 76, 3) := by decide +kernel
theorem dX6_hunk_9 : decode cX6_hunk 9 = .ok (.ifCond .eq 35, 3) := by decide +kernel
theorem dX6_hunk_12 : decode cX6_hunk 12 = .ok (.iload_n 1, 1) := by decide +kernel
theorem dX6_hunk_13 : decode cX6_hunk 13 = .ok (.ifCond .lt 31, 3) := by decide +kernel
theorem dX6_hunk_16 : decode cX6_hunk 16 = .ok (.iload_n 1, 1) := by decide +kernel
theorem dX6_hunk_17 : decode cX6_hunk 17 = .ok (.bipush 9, 2) := by decide +kernel
theorem dX6_hunk_19 : decode cX6_hunk 19 = .ok (.if_icmp .gt 25, 3) := by decide +kernel
theorem dX6_hunk_22 : decode cX6_hunk 22 = .ok (.iload_n 2, 1) := by decide +kernel
theorem dX6_hunk_23 : decode cX6_hunk 23 = .ok (.ifCond .lt 21, 3) := by decide +kernel
theorem dX6_hunk_26 : decode cX6_hunk 26 = .ok (.iload_n 2, 1) := by decide +kernel
theorem dX6_hunk_27 : decode cX6_hunk 27 = .ok (.aload_n 0, 1) := by decide +kernel
theorem dX6_hunk_28 : decode cX6_hunk 28 = .ok (.iload_n 1, 1) := by decide +kernel
theorem dX6_hunk_29 : decode cX6_hunk 29 = .ok (.invokevirtual 120, 3) := by decide +kernel
theorem dX6_hunk_32 : decode cX6_hunk 32 = .ok (.if_icmp .ge 12, 3) := by decide +kernel
theorem dX6_hunk_35 : decode cX6_hunk 35 = .ok (.iload_n 3, 1) := by decide +kernel
theorem dX6_hunk_36 : decode cX6_hunk 36 = .ok (.ifCond .lt 8, 3) := by decide +kernel
theorem dX6_hunk_39 : decode cX6_hunk 39 = .ok (.iload_n 3, 1) := by decide +kernel
theorem dX6_hunk_40 : decode cX6_hunk 40 = .ok (.iconst 3, 1) := by decide +kernel
theorem dX6_hunk_41 : decode cX6_hunk 41 = .ok (.if_icmp .le 5, 3) := by decide +kernel
theorem dX6_hunk_44 : decode cX6_hunk 44 = .ok (.iconst (-1), 1) := by decide +kernel
theorem dX6_hunk_45 : decode cX6_hunk 45 = .ok (.ireturn, 1) := by decide +kernel
theorem dX6_hunk_46 : decode cX6_hunk 46 = .ok (.iconst (-1), 1) := by decide +kernel
theorem dX6_hunk_47 : decode cX6_hunk 47 = .ok (.istore 4, 2) := by decide +kernel
theorem dX6_hunk_49 : decode cX6_hunk 49 = .ok (.iconst 0, 1) := by decide +kernel
theorem dX6_hunk_50 : decode cX6_hunk 50 = .ok (.istore 5, 2) := by decide +kernel
theorem dX6_hunk_52 : decode cX6_hunk 52 = .ok (.aload_n 0, 1) := by decide +kernel
theorem dX6_hunk_53 : decode cX6_hunk 53 = .ok (.getfield 43, 3) := by decide +kernel
theorem dX6_hunk_56 : decode cX6_hunk 56 = .ok (.iconst 2, 1) := by decide +kernel
theorem dX6_hunk_57 : decode cX6_hunk 57 = .ok (.iconst 0, 1) := by decide +kernel
theorem dX6_hunk_58 : decode cX6_hunk 58 = .ok (.iastore, 1) := by decide +kernel
theorem dX6_hunk_59 : decode cX6_hunk 59 = .ok (.aload_n 0, 1) := by decide +kernel
theorem dX6_hunk_60 : decode cX6_hunk 60 = .ok (.getfield 43, 3) := by decide +kernel
theorem dX6_hunk_63 : decode cX6_hunk 63 = .ok (.iconst 3, 1) := by decide +kernel
theorem dX6_hunk_64 : decode cX6_hunk 64 = .ok (.iconst 0, 1) := by decide +kernel
theorem dX6_hunk_65 : decode cX6_hunk 65 = .ok (.iastore, 1) := by decide +kernel
theorem dX6_hunk_66 : decode cX6_hunk 66 = .ok (.iconst 0, 1) := by decide +kernel
theorem dX6_hunk_67 : decode cX6_hunk 67 = .ok (.istore 6, 2) := by decide +kernel
theorem dX6_hunk_69 : decode cX6_hunk 69 = .ok (.iload 6, 2) := by decide +kernel
theorem dX6_hunk_71 : decode cX6_hunk 71 = .ok (.aload_n 0, 1) := by decide +kernel
theorem dX6_hunk_72 : decode cX6_hunk 72 = .ok (.getfield 80, 3) := by decide +kernel
theorem dX6_hunk_75 : decode cX6_hunk 75 = .ok (.if_icmp .ge 210, 3) := by decide +kernel
theorem dX6_hunk_78 : decode cX6_hunk 78 = .ok (.iload 6, 2) := by decide +kernel
theorem dX6_hunk_80 : decode cX6_hunk 80 = .ok (.ifCond .eq 13, 3) := by decide +kernel
theorem dX6_hunk_83 : decode cX6_hunk 83 = .ok (.aload_n 0, 1) := by decide +kernel
theorem dX6_hunk_84 : decode cX6_hunk 84 = .ok (.iload 6, 2) := by decide +kernel
theorem dX6_hunk_86 : decode cX6_hunk 86 = .ok (.iload_n 1, 1) := by decide +kernel
theorem dX6_hunk_87 : decode cX6_hunk 87 = .ok (.invokevirtual 116, 3) := by decide +kernel
theorem dX6_hunk_90 : decode cX6_hunk 90 = .ok (.ifCond .ne 10, 3) := by decide +kernel
theorem dX6_hunk_93 : decode cX6_hunk 93 = .ok (.iload 4, 2) := by decide +kernel
theorem dX6_hunk_95 : decode cX6_hunk 95 = .ok (.iconst 1, 1) := by decide +kernel
theorem dX6_hunk_96 : decode cX6_hunk 96 = .ok (.iadd, 1) := by decide +kernel
theorem dX6_hunk_97 : decode cX6_hunk 97 = .ok (.goto 5, 3) := by decide +kernel
theorem dX6_hunk_100 : decode cX6_hunk 100 = .ok (.iload 4, 2) := by decide +kernel
theorem dX6_hunk_102 : decode cX6_hunk 102 = .ok (.istore 4, 2) := by decide +kernel
theorem dX6_hunk_104 : decode cX6_hunk 104 = .ok (.iload 4, 2) := by decide +kernel
theorem dX6_hunk_106 : decode cX6_hunk 106 = .ok (.iload_n 2, 1) := by decide +kernel
theorem dX6_hunk_107 : decode cX6_hunk 107 = .ok (.if_icmp .ne 23, 3) := by decide +kernel
theorem dX6_hunk_110 : decode cX6_hunk 110 = .ok (.aload_n 0, 1) := by decide +kernel
theorem dX6_hunk_111 : decode cX6_hunk 111 = .ok (.getfield 43, 3) := by decide +kernel
theorem dX6_hunk_114 : decode cX6_hunk 114 = .ok (.iconst 2, 1) := by decide +kernel
theorem dX6_hunk_115 : decode cX6_hunk 115 = .ok (.iaload, 1) := by decide +kernel
theorem dX6_hunk_116 : decode cX6_hunk 116 = .ok (.aload_n 0, 1) := by decide +kernel
theorem dX6_hunk_117 : decode cX6_hunk 117 = .ok (.getfield 43, 3) := by decide +kernel
theorem dX6_hunk_120 : decode cX6_hunk 120 = .ok (.iconst 3, 1) := by decide +kernel
theorem dX6_hunk_121 : decode cX6_hunk 121 = .ok (.iaload, 1) := by decide +kernel
theorem dX6_hunk_122 : decode cX6_hunk 122 = .ok (.iadd, 1) := by decide +kernel
theorem dX6_hunk_123 : decode cX6_hunk 123 = .ok (.ifCond .ne 7, 3) := by decide +kernel
theorem dX6_hunk_126 : decode cX6_hunk 126 = .ok (.iconst 1, 1) := by decide +kernel
theorem dX6_hunk_127 : decode cX6_hunk 127 = .ok (.goto 4, 3) := by decide +kernel
theorem dX6_hunk_130 : decode cX6_hunk 130 = .ok (.iconst 0, 1) := by decide +kernel
theorem dX6_hunk_131 : decode cX6_hunk 131 = .ok (.istore 7, 2) := by decide +kernel
theorem dX6_hunk_133 : decode cX6_hunk 133 = .ok (.aload_n 0, 1) := by decide +kernel
theorem dX6_hunk_134 : decode cX6_hunk 134 = .ok (.getfield 43, 3) := by decide +kernel
theorem dX6_hunk_137 : decode cX6_hunk 137 = .ok (.iconst 0, 1) := by decide +kernel
theorem dX6_hunk_138 : decode cX6_hunk 138 = .ok (.iload 7, 2) := by decide +kernel
theorem dX6_hunk_140 : decode cX6_hunk 140 = .ok (.ifCond .eq 15, 3) := by decide +kernel
theorem dX6_hunk_143 : decode cX6_hunk 143 = .ok (.aload_n 0, 1) := by decide +kernel
theorem dX6_hunk_144 : decode cX6_hunk 144 = .ok (.getfield 28, 3) := by decide +kernel
theorem dX6_hunk_147 : decode cX6_hunk 147 = .ok (.iload 6, 2) := by decide +kernel
theorem dX6_hunk_149 : decode cX6_hunk 149 = .ok (.iaload, 1) := by decide +kernel
theorem dX6_hunk_150 : decode cX6_hunk 150 = .ok (.iload_n 1, 1) := by decide +kernel
theorem dX6_hunk_151 : decode cX6_hunk 151 = .ok (.isub, 1) := by decide +kernel
theorem dX6_hunk_152 : decode cX6_hunk 152 = .ok (.goto 9, 3) := by decide +kernel
theorem dX6_hunk_155 : decode cX6_hunk 155 = .ok (.aload_n 0, 1) := by decide +kernel
theorem dX6_hunk_156 : decode cX6_hunk 156 = .ok (.getfield 43, 3) := by decide +kernel
theorem dX6_hunk_159 : decode cX6_hunk 159 = .ok (.iconst 0, 1) := by decide +kernel
theorem dX6_hunk_160 : decode cX6_hunk 160 = .ok (.iaload, 1) := by decide +kernel
theorem dX6_hunk_161 : decode cX6_hunk 161 = .ok (.iastore, 1) := by decide +kernel
theorem dX6_hunk_162 : decode cX6_hunk 162 = .ok (.iload 4, 2) := by decide +kernel
theorem dX6_hunk_164 : decode cX6_hunk 164 = .ok (.iload_n 2, 1) := by decide +kernel
theorem dX6_hunk_165 : decode cX6_hunk 165 = .ok (.if_icmp .ne 31, 3) := by decide +kernel
theorem dX6_hunk_168 : decode cX6_hunk 168 = .ok (.aload_n 0, 1) := by decide +kernel
theorem dX6_hunk_169 : decode cX6_hunk 169 = .ok (.getfield 28, 3) := by decide +kernel
theorem dX6_hunk_172 : decode cX6_hunk 172 = .ok (.iload 6, 2) := by decide +kernel
theorem dX6_hunk_174 : decode cX6_hunk 174 = .ok (.iaload, 1) := by decide +kernel
theorem dX6_hunk_175 : decode cX6_hunk 175 = .ok (.aload_n 0, 1) := by decide +kernel
theorem dX6_hunk_176 : decode cX6_hunk 176 = .ok (.getfield 25, 3) := by decide +kernel
theorem dX6_hunk_179 : decode cX6_hunk 179 = .ok (.iload 6, 2) := by decide +kernel
theorem dX6_hunk_181 : decode cX6_hunk 181 = .ok (.iaload, 1) := by decide +kernel
theorem dX6_hunk_182 : decode cX6_hunk 182 = .ok (.ifCond .ne 7, 3) := by decide +kernel
theorem dX6_hunk_185 : decode cX6_hunk 185 = .ok (.iconst 1, 1) := by decide +kernel
theorem dX6_hunk_186 : decode cX6_hunk 186 = .ok (.goto 4, 3) := by decide +kernel
theorem dX6_hunk_189 : decode cX6_hunk 189 = .ok (.iconst 0, 1) := by decide +kernel
theorem dX6_hunk_190 : decode cX6_hunk 190 = .ok (.iadd, 1) := by decide +kernel
theorem dX6_hunk_191 : decode cX6_hunk 191 = .ok (.iload_n 1, 1) := by decide +kernel
theorem dX6_hunk_192 : decode cX6_hunk 192 = .ok (.iadd, 1) := by decide +kernel
theorem dX6_hunk_193 : decode cX6_hunk 193 = .ok (.goto 5, 3) := by decide +kernel
theorem dX6_hunk_196 : decode cX6_hunk 196 = .ok (.iload 5, 2) := by decide +kernel
theorem dX6_hunk_198 : decode cX6_hunk 198 = .ok (.istore 5, 2) := by decide +kernel
theorem dX6_hunk_200 : decode cX6_hunk 200 = .ok (.aload_n 0, 1) := by decide +kernel
theorem dX6_hunk_201 : decode cX6_hunk 201 = .ok (.getfield 43, 3) := by decide +kernel
theorem dX6_hunk_204 : decode cX6_hunk 204 = .ok (.iconst 2, 1) := by decide +kernel
theorem dX6_hunk_205 : decode cX6_hunk 205 = .ok (.iload 4, 2) := by decide +kernel
theorem dX6_hunk_207 : decode cX6_hunk 207 = .ok (.iload_n 2, 1) := by decide +kernel
theorem dX6_hunk_208 : decode cX6_hunk 208 = .ok (.if_icmp .ne 25, 3) := by decide +kernel
theorem dX6_hunk_211 : decode cX6_hunk 211 = .ok (.aload_n 0, 1) := by decide +kernel
theorem dX6_hunk_212 : decode cX6_hunk 212 = .ok (.getfield 25, 3) := by decide +kernel
theorem dX6_hunk_215 : decode cX6_hunk 215 = .ok (.iload 6, 2) := by decide +kernel
theorem dX6_hunk_217 : decode cX6_hunk 217 = .ok (.iaload, 1) := by decide +kernel
theorem dX6_hunk_218 : decode cX6_hunk 218 = .ok (.iconst 1, 1) := by decide +kernel
theorem dX6_hunk_219 : decode cX6_hunk 219 = .ok (.if_icmp .ne 14, 3) := by decide +kernel
theorem dX6_hunk_222 : decode cX6_hunk 222 = .ok (.aload_n 0, 1) := by decide +kernel
theorem dX6_hunk_223 : decode cX6_hunk 223 = .ok (.getfield 43, 3) := by decide +kernel
theorem dX6_hunk_226 : decode cX6_hunk 226 = .ok (.iconst 2, 1) := by decide +kernel
theorem dX6_hunk_227 : decode cX6_hunk 227 = .ok (.iaload, 1) := by decide +kernel
theorem dX6_hunk_228 : decode cX6_hunk 228 = .ok (.iconst 1, 1) := by decide +kernel
theorem dX6_hunk_229 : decode cX6_hunk 229 = .ok (.iadd, 1) := by decide +kernel
theorem dX6_hunk_230 : decode cX6_hunk 230 = .ok (.goto 9, 3) := by decide +kernel
theorem dX6_hunk_233 : decode cX6_hunk 233 = .ok (.aload_n 0, 1) := by decide +kernel
theorem dX6_hunk_234 : decode cX6_hunk 234 = .ok (.getfield 43, 3) := by decide +kernel
theorem dX6_hunk_237 : decode cX6_hunk 237 = .ok (.iconst 2, 1) := by decide +kernel
theorem dX6_hunk_238 : decode cX6_hunk 238 = .ok (.iaload, 1) := by decide +kernel
theorem dX6_hunk_239 : decode cX6_hunk 239 = .ok (.iastore, 1) := by decide +kernel
theorem dX6_hunk_240 : decode cX6_hunk 240 = .ok (.aload_n 0, 1) := by decide +kernel
theorem dX6_hunk_241 : decode cX6_hunk 241 = .ok (.getfield 43, 3) := by decide +kernel
theorem dX6_hunk_244 : decode cX6_hunk 244 = .ok (.iconst 3, 1) := by decide +kernel
theorem dX6_hunk_245 : decode cX6_hunk 245 = .ok (.iload 4, 2) := by decide +kernel
theorem dX6_hunk_247 : decode cX6_hunk 247 = .ok (.iload_n 2, 1) := by decide +kernel
theorem dX6_hunk_248 : decode cX6_hunk 248 = .ok (.if_icmp .ne 24, 3) := by decide +kernel
theorem dX6_hunk_251 : decode cX6_hunk 251 = .ok (.aload_n 0, 1) := by decide +kernel
theorem dX6_hunk_252 : decode cX6_hunk 252 = .ok (.getfield 25, 3) := by decide +kernel
theorem dX6_hunk_255 : decode cX6_hunk 255 = .ok (.iload 6, 2) := by decide +kernel
theorem dX6_hunk_257 : decode cX6_hunk 257 = .ok (.iaload, 1) := by decide +kernel
theorem dX6_hunk_258 : decode cX6_hunk 258 = .ok (.ifCond .ne 14, 3) := by decide +kernel
theorem dX6_hunk_261 : decode cX6_hunk 261 = .ok (.aload_n 0, 1) := by decide +kernel
theorem dX6_hunk_262 : decode cX6_hunk 262 = .ok (.getfield 43, 3) := by decide +kernel
theorem dX6_hunk_265 : decode cX6_hunk 265 = .ok (.iconst 3, 1) := by decide +kernel
theorem dX6_hunk_266 : decode cX6_hunk 266 = .ok (.iaload, 1) := by decide +kernel
theorem dX6_hunk_267 : decode cX6_hunk 267 = .ok (.iconst 1, 1) := by decide +kernel
theorem dX6_hunk_268 : decode cX6_hunk 268 = .ok (.iadd, 1) := by decide +kernel
theorem dX6_hunk_269 : decode cX6_hunk 269 = .ok (.goto 9, 3) := by decide +kernel
theorem dX6_hunk_272 : decode cX6_hunk 272 = .ok (.aload_n 0, 1) := by decide +kernel
theorem dX6_hunk_273 : decode cX6_hunk 273 = .ok (.getfield 43, 3) := by decide +kernel
theorem dX6_hunk_276 : decode cX6_hunk 276 = .ok (.iconst 3, 1) := by decide +kernel
theorem dX6_hunk_277 : decode cX6_hunk 277 = .ok (.iaload, 1) := by decide +kernel
theorem dX6_hunk_278 : decode cX6_hunk 278 = .ok (.iastore, 1) := by decide +kernel
theorem dX6_hunk_279 : decode cX6_hunk 279 = .ok (.iinc 6 1, 3) := by decide +kernel
theorem dX6_hunk_282 : decode cX6_hunk 282 = .ok (.goto (-213), 3) := by decide +kernel
theorem dX6_hunk_285 : decode cX6_hunk 285 = .ok (.aload_n 0, 1) := by decide +kernel
theorem dX6_hunk_286 : decode cX6_hunk 286 = .ok (.getfield 43, 3) := by decide +kernel
theorem dX6_hunk_289 : decode cX6_hunk 289 = .ok (.iconst 0, 1) := by decide +kernel
theorem dX6_hunk_290 : decode cX6_hunk 290 = .ok (.aload_n 0, 1) := by decide +kernel
theorem dX6_hunk_291 : decode cX6_hunk 291 = .ok (.getfield 43, 3) := by decide +kernel
theorem dX6_hunk_294 : decode cX6_hunk 294 = .ok (.iconst 0, 1) := by decide +kernel
theorem dX6_hunk_295 : decode cX6_hunk 295 = .ok (.iaload, 1) := by decide +kernel
theorem dX6_hunk_296 : decode cX6_hunk 296 = .ok (.ifCond .ge 7, 3) := by decide +kernel
theorem dX6_hunk_299 : decode cX6_hunk 299 = .ok (.iconst 0, 1) := by decide +kernel
theorem dX6_hunk_300 : decode cX6_hunk 300 = .ok (.goto 9, 3) := by decide +kernel
theorem dX6_hunk_303 : decode cX6_hunk 303 = .ok (.aload_n 0, 1) := by decide +kernel
theorem dX6_hunk_304 : decode cX6_hunk 304 = .ok (.getfield 43, 3) := by decide +kernel
theorem dX6_hunk_307 : decode cX6_hunk 307 = .ok (.iconst 0, 1) := by decide +kernel
theorem dX6_hunk_308 : decode cX6_hunk 308 = .ok (.iaload, 1) := by decide +kernel
theorem dX6_hunk_309 : decode cX6_hunk 309 = .ok (.iastore, 1) := by decide +kernel
theorem dX6_hunk_310 : decode cX6_hunk 310 = .ok (.iload 5, 2) := by decide +kernel
theorem dX6_hunk_312 : decode cX6_hunk 312 = .ok (.aload_n 0, 1) := by decide +kernel
theorem dX6_hunk_313 : decode cX6_hunk 313 = .ok (.getfield 83, 3) := by decide +kernel
theorem dX6_hunk_316 : decode cX6_hunk 316 = .ok (.if_icmp .le 10, 3) := by decide +kernel
theorem dX6_hunk_319 : decode cX6_hunk 319 = .ok (.aload_n 0, 1) := by decide +kernel
theorem dX6_hunk_320 : decode cX6_hunk 320 = .ok (.getfield 83, 3) := by decide +kernel
theorem dX6_hunk_323 : decode cX6_hunk 323 = .ok (.goto 5, 3) := by decide +kernel
theorem dX6_hunk_326 : decode cX6_hunk 326 = .ok (.iload 5, 2) := by decide +kernel
theorem dX6_hunk_328 : decode cX6_hunk 328 = .ok (.istore 5, 2) := by decide +kernel
theorem dX6_hunk_330 : decode cX6_hunk 330 = .ok (.aload_n 0, 1) := by decide +kernel
theorem dX6_hunk_331 : decode cX6_hunk 331 = .ok (.getfield 43, 3) := by decide +kernel
theorem dX6_hunk_334 : decode cX6_hunk 334 = .ok (.iconst 1, 1) := by decide +kernel
theorem dX6_hunk_335 : decode cX6_hunk 335 = .ok (.iload 5, 2) := by decide +kernel
theorem dX6_hunk_337 : decode cX6_hunk 337 = .ok (.aload_n 0, 1) := by decide +kernel
theorem dX6_hunk_338 : decode cX6_hunk 338 = .ok (.getfield 43, 3) := by decide +kernel
theorem dX6_hunk_341 : decode cX6_hunk 341 = .ok (.iconst 0, 1) := by decide +kernel
theorem dX6_hunk_342 : decode cX6_hunk 342 = .ok (.iaload, 1) := by decide +kernel
theorem dX6_hunk_343 : decode cX6_hunk 343 = .ok (.isub, 1) := by decide +kernel
theorem dX6_hunk_344 : decode cX6_hunk 344 = .ok (.iastore, 1) := by decide +kernel
theorem dX6_hunk_345 : decode cX6_hunk 345 = .ok (.aload_n 0, 1) := by decide +kernel
theorem dX6_hunk_346 : decode cX6_hunk 346 = .ok (.getfield 43, 3) := by decide +kernel
theorem dX6_hunk_349 : decode cX6_hunk 349 = .ok (.iload_n 3, 1) := by decide +kernel
theorem dX6_hunk_350 : decode cX6_hunk 350 = .ok (.iaload, 1) := by decide +kernel
theorem dX6_hunk_351 : decode cX6_hunk 351 = .ok (.ireturn, 1) := by decide +kernel
set_option maxRecDepth 20000 in
theorem ggX6_alike_X6_isRow : GoodIn wsX6_alike wsX6_isRow := goodIn_r _ [8] (by decide +kernel) (by decide +kernel)
set_option maxRecDepth 20000 in
theorem gX6_alike_X6_isRow : GoodIn wsX6_alike (va_wsS RX6 53 yX6_isRow wsX6_isRow) := goodIn_app (goodIn_of _ (by decide +kernel)) ggX6_alike_X6_isRow
set_option maxRecDepth 20000 in
theorem ggX6_alike_X6_fill : GoodIn wsX6_alike wsX6_fill := goodIn_r _ [12, 3, 4, 13, 14, 15, 7, 16, 17, 18, 19, 20, 21, 22, 23, 24, 25, 26, 27, 28, 29, 30, 31, 32, 33, 34, 35, 36] (by decide +kernel) (by decide +kernel)
set_option maxRecDepth 20000 in
theorem gX6_alike_X6_fill : GoodIn wsX6_alike (wsV RX6 61 RX6 yX6_fill wsX6_fill) := goodIn_app (goodIn_of _ (by decide +kernel)) ggX6_alike_X6_fill
theorem dX6_alike_0 : decode cX6_alike 0 = .ok (.aload_n 0, 1) := by decide +kernel
theorem dX6_alike_1 : decode cX6_alike 1 = .ok (.iconst 0, 1) := by decide +kernel
theorem dX6_alike_2 : decode cX6_alike 2 = .ok (.putfield 50, 3) := by decide +kernel
theorem dX6_alike_5 : decode cX6_alike 5 = .ok (.iload_n 1, 1) := by decide +kernel
theorem dX6_alike_6 : decode cX6_alike 6 = .ok (.invokestatic 53, 3) := by decide +kernel
theorem dX6_alike_9 : decode cX6_alike 9 = .ok (.ifCond .eq 10, 3) := by decide +kernel
theorem dX6_alike_12 : decode cX6_alike 12 = .ok (.iload_n 2, 1) := by decide +kernel
theorem dX6_alike_13 : decode cX6_alike 13 = .ok (.invokestatic 53, 3) := by decide +kernel
theorem dX6_alike_16 : decode cX6_alike 16 = .ok (.ifCond .ne 6, 3) := by decide +kernel
theorem dX6_alike_19 : decode cX6_alike 19 = .ok (.ldc 123, 2) := by decide +kernel
theorem dX6_alike_21 : decode cX6_alike 21 = .ok (.freturn, 1) := by decide +kernel
theorem dX6_alike_22 : decode cX6_alike 22 = .ok (.aload_n 0, 1) := by decide +kernel
theorem dX6_alike_23 : decode cX6_alike 23 = .ok (.getfield 7, 3) := by decide +kernel
theorem dX6_alike_26 : decode cX6_alike 26 = .ok (.iload_n 1, 1) := by decide +kernel
theorem dX6_alike_27 : decode cX6_alike 27 = .ok (.iaload, 1) := by decide +kernel
theorem dX6_alike_28 : decode cX6_alike 28 = .ok (.aload_n 0, 1) := by decide +kernel
theorem dX6_alike_29 : decode cX6_alike 29 = .ok (.getfield 7, 3) := by decide +kernel
theorem dX6_alike_32 : decode cX6_alike 32 = .ok (.iload_n 2, 1) := by decide +kernel
theorem dX6_alike_33 : decode cX6_alike 33 = .ok (.iaload, 1) := by decide +kernel
theorem dX6_alike_34 : decode cX6_alike 34 = .ok (.iadd, 1) := by decide +kernel
theorem dX6_alike_35 : decode cX6_alike 35 = .ok (.istore_n 3, 1) := by decide +kernel
theorem dX6_alike_36 : decode cX6_alike 36 = .ok (.aload_n 0, 1) := by decide +kernel
theorem dX6_alike_37 : decode cX6_alike 37 = .ok (.iload_n 1, 1) := by decide +kernel
theorem dX6_alike_38 : decode cX6_alike 38 = .ok (.iload_n 2, 1) := by decide +kernel
theorem dX6_alike_39 : decode cX6_alike 39 = .ok (.invokevirtual 61, 3) := by decide +kernel
theorem dX6_alike_42 : decode cX6_alike 42 = .ok (.iload_n 3, 1) := by decide +kernel
theorem dX6_alike_43 : decode cX6_alike 43 = .ok (.aload_n 0, 1) := by decide +kernel
theorem dX6_alike_44 : decode cX6_alike 44 = .ok (.getfield 34, 3) := by decide +kernel
theorem dX6_alike_47 : decode cX6_alike 47 = .ok (.iconst 0, 1) := by decide +kernel
theorem dX6_alike_48 : decode cX6_alike 48 = .ok (.iaload, 1) := by decide +kernel
theorem dX6_alike_49 : decode cX6_alike 49 = .ok (.isub, 1) := by decide +kernel
theorem dX6_alike_50 : decode cX6_alike 50 = .ok (.iconst 2, 1) := by decide +kernel
theorem dX6_alike_51 : decode cX6_alike 51 = .ok (.idiv, 1) := by decide +kernel
theorem dX6_alike_52 : decode cX6_alike 52 = .ok (.istore 4, 2) := by decide +kernel
theorem dX6_alike_54 : decode cX6_alike 54 = .ok (.iload_n 3, 1) := by decide +kernel
theorem dX6_alike_55 : decode cX6_alike 55 = .ok (.ifCond .ne 7, 3) := by decide +kernel
theorem dX6_alike_58 : decode cX6_alike 58 = .ok (.fconst 1, 1) := by decide +kernel
theorem dX6_alike_59 : decode cX6_alike 59 = .ok (.goto 11, 3) := by decide +kernel
theorem dX6_alike_62 : decode cX6_alike 62 = .ok (.iconst 2, 1) := by decide +kernel
theorem dX6_alike_63 : decode cX6_alike 63 = .ok (.iload 4, 2) := by decide +kernel
theorem dX6_alike_65 : decode cX6_alike 65 = .ok (.imul, 1) := by decide +kernel
theorem dX6_alike_66 : decode cX6_alike 66 = .ok (.i2f, 1) := by decide +kernel
theorem dX6_alike_67 : decode cX6_alike 67 = .ok (.iload_n 3, 1) := by decide +kernel
theorem dX6_alike_68 : decode cX6_alike 68 = .ok (.i2f, 1) := by decide +kernel
theorem dX6_alike_69 : decode cX6_alike 69 = .ok (.fdiv, 1) := by decide +kernel
theorem dX6_alike_70 : decode cX6_alike 70 = .ok (.freturn, 1) := by decide +kernel
theorem dJ9_max_7cf53_0 : decode cJ9_max_7cf53 0 = .ok (.iload_n 0, 1) := by decide +kernel
theorem dJ9_max_7cf53_1 : decode cJ9_max_7cf53 1 = .ok (.iload_n 1, 1) := by decide +kernel
theorem dJ9_max_7cf53_2 : decode cJ9_max_7cf53 2 = .ok (.if_icmp .lt 7, 3) := by decide +kernel
theorem dJ9_max_7cf53_5 : decode cJ9_max_7cf53 5 = .ok (.iload_n 0, 1) := by decide +kernel
theorem dJ9_max_7cf53_6 : decode cJ9_max_7cf53 6 = .ok (.goto 4, 3) := by decide +kernel
theorem dJ9_max_7cf53_9 : decode cJ9_max_7cf53 9 = .ok (.iload_n 1, 1) := by decide +kernel
theorem dJ9_max_7cf53_10 : decode cJ9_max_7cf53 10 = .ok (.ireturn, 1) := by decide +kernel
theorem dJ9_min_7cf53_0 : decode cJ9_min_7cf53 0 = .ok (.iload_n 0, 1) := by decide +kernel
theorem dJ9_min_7cf53_1 : decode cJ9_min_7cf53 1 = .ok (.iload_n 1, 1) := by decide +kernel
theorem dJ9_min_7cf53_2 : decode cJ9_min_7cf53 2 = .ok (.if_icmp .gt 7, 3) := by decide +kernel
theorem dJ9_min_7cf53_5 : decode cJ9_min_7cf53 5 = .ok (.iload_n 0, 1) := by decide +kernel
theorem dJ9_min_7cf53_6 : decode cJ9_min_7cf53 6 = .ok (.goto 4, 3) := by decide +kernel
theorem dJ9_min_7cf53_9 : decode cJ9_min_7cf53 9 = .ok (.iload_n 1, 1) := by decide +kernel
theorem dJ9_min_7cf53_10 : decode cJ9_min_7cf53 10 = .ok (.ireturn, 1) := by decide +kernel
theorem dL_cell_0 : decode cL_cell 0 = .ok (.iload_n 1, 1) := by decide +kernel
theorem dL_cell_1 : decode cL_cell 1 = .ok (.aload_n 0, 1) := by decide +kernel
theorem dL_cell_2 : decode cL_cell 2 = .ok (.arraylength, 1) := by decide +kernel
theorem dL_cell_3 : decode cL_cell 3 = .ok (.if_icmp .ge 9, 3) := by decide +kernel
theorem dL_cell_6 : decode cL_cell 6 = .ok (.aload_n 0, 1) := by decide +kernel
theorem dL_cell_7 : decode cL_cell 7 = .ok (.iload_n 1, 1) := by decide +kernel
theorem dL_cell_8 : decode cL_cell 8 = .ok (.iaload, 1) := by decide +kernel
theorem dL_cell_9 : decode cL_cell 9 = .ok (.goto 4, 3) := by decide +kernel
theorem dL_cell_12 : decode cL_cell 12 = .ok (.iconst 0, 1) := by decide +kernel
theorem dL_cell_13 : decode cL_cell 13 = .ok (.ireturn, 1) := by decide +kernel
