set_option maxRecDepth 20000 in
theorem ggX6_load_X6_put : GoodIn wsX6_load wsX6_put := goodIn_r _ [7, 8, 2, 9, 10, 11, 12, 13, 14, 15, 16, 17, 18, 19, 20, 21, 22, 23, 24, 25, 26, 27, 28, 29] (by decide +kernel) (by decide +kernel)
set_option maxRecDepth 20000 in
theorem gX6_load_X6_put : GoodIn wsX6_load (wsV RX6 72 RX6 yX6_put wsX6_put) := goodIn_app (goodIn_of _ (by decide +kernel)) ggX6_load_X6_put
theorem dX6_load_0 : decode cX6_load 0 = .ok (.aload_n 0, 1) := by decide +kernel
theorem dX6_load_1 : decode cX6_load 1 = .ok (.iconst 0, 1) := by decide +kernel
theorem dX6_load_2 : decode cX6_load 2 = .ok (.putfield 50, 3) := by decide +kernel
theorem dX6_load_5 : decode cX6_load 5 = .ok (.aload_n 0, 1) := by decide +kernel
theorem dX6_load_6 : decode cX6_load 6 = .ok (.getfield 65, 3) := by decide +kernel
theorem dX6_load_9 : decode cX6_load 9 = .ok (.bipush 60, 2) := by decide +kernel
theorem dX6_load_11 : decode cX6_load 11 = .ok (.if_icmp .ne 5, 3) := by decide +kernel
theorem dX6_load_14 : decode cX6_load 14 = .ok (.iconst 0, 1) := by decide +kernel
theorem dX6_load_15 : decode cX6_load 15 = .ok (.ireturn, 1) := by decide +kernel
theorem dX6_load_16 : decode cX6_load 16 = .ok (.aload_n 0, 1) := by decide +kernel
theorem dX6_load_17 : decode cX6_load 17 = .ok (.iload_n 1, 1) := by decide +kernel
theorem dX6_load_18 : decode cX6_load 18 = .ok (.iload_n 2, 1) := by decide +kernel
theorem dX6_load_19 : decode cX6_load 19 = .ok (.iload_n 3, 1) := by decide +kernel
theorem dX6_load_20 : decode cX6_load 20 = .ok (.invokevirtual 72, 3) := by decide +kernel
theorem dX6_load_23 : decode cX6_load 23 = .ok (.iconst 1, 1) := by decide +kernel
theorem dX6_load_24 : decode cX6_load 24 = .ok (.ireturn, 1) := by decide +kernel
theorem dX6_trouble_0 : decode cX6_trouble 0 = .ok (.aload_n 0, 1) := by decide +kernel
theorem dX6_trouble_1 : decode cX6_trouble 1 = .ok (.getfield 7, 3) := by decide +kernel
theorem dX6_trouble_4 : decode cX6_trouble 4 = .ok (.iload_n 1, 1) := by decide +kernel
theorem dX6_trouble_5 : decode cX6_trouble 5 = .ok (.iaload, 1) := by decide +kernel
theorem dX6_trouble_6 : decode cX6_trouble 6 = .ok (.istore 5, 2) := by decide +kernel
theorem dX6_trouble_8 : decode cX6_trouble 8 = .ok (.iload_n 2, 1) := by decide +kernel
theorem dX6_trouble_9 : decode cX6_trouble 9 = .ok (.ifCond .ne 7, 3) := by decide +kernel
theorem dX6_trouble_12 : decode cX6_trouble 12 = .ok (.iconst 0, 1) := by decide +kernel
theorem dX6_trouble_13 : decode cX6_trouble 13 = .ok (.goto 35, 3) := by decide +kernel
theorem dX6_trouble_16 : decode cX6_trouble 16 = .ok (.aload_n 0, 1) := by decide +kernel
theorem dX6_trouble_17 : decode cX6_trouble 17 = .ok (.getfield 16, 3) := by decide +kernel
theorem dX6_trouble_20 : decode cX6_trouble 20 = .ok (.iload_n 2, 1) := by decide +kernel
theorem dX6_trouble_21 : decode cX6_trouble 21 = .ok (.iconst 1, 1) := by decide +kernel
theorem dX6_trouble_22 : decode cX6_trouble 22 = .ok (.isub, 1) := by decide +kernel
theorem dX6_trouble_23 : decode cX6_trouble 23 = .ok (.iaload, 1) := by decide +kernel
theorem dX6_trouble_24 : decode cX6_trouble 24 = .ok (.ifCond .ne 16, 3) := by decide +kernel
theorem dX6_trouble_27 : decode cX6_trouble 27 = .ok (.aload_n 0, 1) := by decide +kernel
theorem dX6_trouble_28 : decode cX6_trouble 28 = .ok (.getfield 19, 3) := by decide +kernel
theorem dX6_trouble_31 : decode cX6_trouble 31 = .ok (.iload_n 2, 1) := by decide +kernel
theorem dX6_trouble_32 : decode cX6_trouble 32 = .ok (.iconst 1, 1) := by decide +kernel
theorem dX6_trouble_33 : decode cX6_trouble 33 = .ok (.isub, 1) := by decide +kernel
theorem dX6_trouble_34 : decode cX6_trouble 34 = .ok (.iaload, 1) := by decide +kernel
theorem dX6_trouble_35 : decode cX6_trouble 35 = .ok (.iconst 1, 1) := by decide +kernel
theorem dX6_trouble_36 : decode cX6_trouble 36 = .ok (.iadd, 1) := by decide +kernel
theorem dX6_trouble_37 : decode cX6_trouble 37 = .ok (.goto 11, 3) := by decide +kernel
theorem dX6_trouble_40 : decode cX6_trouble 40 = .ok (.aload_n 0, 1) := by decide +kernel
theorem dX6_trouble_41 : decode cX6_trouble 41 = .ok (.getfield 19, 3) := by decide +kernel
theorem dX6_trouble_44 : decode cX6_trouble 44 = .ok (.iload_n 2, 1) := by decide +kernel
theorem dX6_trouble_45 : decode cX6_trouble 45 = .ok (.iconst 1, 1) := by decide +kernel
theorem dX6_trouble_46 : decode cX6_trouble 46 = .ok (.isub, 1) := by decide +kernel
theorem dX6_trouble_47 : decode cX6_trouble 47 = .ok (.iaload, 1) := by decide +kernel
theorem dX6_trouble_48 : decode cX6_trouble 48 = .ok (.istore 6, 2) := by decide +kernel
theorem dX6_trouble_50 : decode cX6_trouble 50 = .ok (.aload_n 0, 1) := by decide +kernel
theorem dX6_trouble_51 : decode cX6_trouble 51 = .ok (.getfield 16, 3) := by decide +kernel
theorem dX6_trouble_54 : decode cX6_trouble 54 = .ok (.iload_n 2, 1) := by decide +kernel
theorem dX6_trouble_55 : decode cX6_trouble 55 = .ok (.iaload, 1) := by decide +kernel
theorem dX6_trouble_56 : decode cX6_trouble 56 = .ok (.ifCond .lt 34, 3) := by decide +kernel
theorem dX6_trouble_59 : decode cX6_trouble 59 = .ok (.aload_n 0, 1) := by decide +kernel
theorem dX6_trouble_60 : decode cX6_trouble 60 = .ok (.getfield 16, 3) := by decide +kernel
theorem dX6_trouble_63 : decode cX6_trouble 63 = .ok (.iload_n 2, 1) := by decide +kernel
theorem dX6_trouble_64 : decode cX6_trouble 64 = .ok (.iaload, 1) := by decide +kernel
theorem dX6_trouble_65 : decode cX6_trouble 65 = .ok (.iconst 1, 1) := by decide +kernel
theorem dX6_trouble_66 : decode cX6_trouble 66 = .ok (.if_icmp .gt 24, 3) := by decide +kernel
theorem dX6_trouble_69 : decode cX6_trouble 69 = .ok (.aload_n 0, 1) := by decide +kernel
theorem dX6_trouble_70 : decode cX6_trouble 70 = .ok (.getfield 22, 3) := by decide +kernel
theorem dX6_trouble_73 : decode cX6_trouble 73 = .ok (.iload_n 2, 1) := by decide +kernel
theorem dX6_trouble_74 : decode cX6_trouble 74 = .ok (.iaload, 1) := by decide +kernel
theorem dX6_trouble_75 : decode cX6_trouble 75 = .ok (.ifCond .lt 15, 3) := by decide +kernel
theorem dX6_trouble_78 : decode cX6_trouble 78 = .ok (.aload_n 0, 1) := by decide +kernel
theorem dX6_trouble_79 : decode cX6_trouble 79 = .ok (.getfield 22, 3) := by decide +kernel
theorem dX6_trouble_82 : decode cX6_trouble 82 = .ok (.iload_n 2, 1) := by decide +kernel
theorem dX6_trouble_83 : decode cX6_trouble 83 = .ok (.iaload, 1) := by decide +kernel
theorem dX6_trouble_84 : decode cX6_trouble 84 = .ok (.sipush 30000, 3) := by decide +kernel
theorem dX6_trouble_87 : decode cX6_trouble 87 = .ok (.if_icmp .le 5, 3) := by decide +kernel
theorem dX6_trouble_90 : decode cX6_trouble 90 = .ok (.iconst 1, 1) := by decide +kernel
theorem dX6_trouble_91 : decode cX6_trouble 91 = .ok (.ireturn, 1) := by decide +kernel
theorem dX6_trouble_92 : decode cX6_trouble 92 = .ok (.aload_n 0, 1) := by decide +kernel
theorem dX6_trouble_93 : decode cX6_trouble 93 = .ok (.getfield 19, 3) := by decide +kernel
theorem dX6_trouble_96 : decode cX6_trouble 96 = .ok (.iload_n 2, 1) := by decide +kernel
theorem dX6_trouble_97 : decode cX6_trouble 97 = .ok (.iaload, 1) := by decide +kernel
theorem dX6_trouble_98 : decode cX6_trouble 98 = .ok (.ifCond .lt 34, 3) := by decide +kernel
theorem dX6_trouble_101 : decode cX6_trouble 101 = .ok (.aload_n 0, 1) := by decide +kernel
theorem dX6_trouble_102 : decode cX6_trouble 102 = .ok (.getfield 19, 3) := by decide +kernel
theorem dX6_trouble_105 : decode cX6_trouble 105 = .ok (.iload_n 2, 1) := by decide +kernel
theorem dX6_trouble_106 : decode cX6_trouble 106 = .ok (.iaload, 1) := by decide +kernel
theorem dX6_trouble_107 : decode cX6_trouble 107 = .ok (.iload 5, 2) := by decide +kernel
theorem dX6_trouble_109 : decode cX6_trouble 109 = .ok (.iconst 1, 1) := by decide +kernel
theorem dX6_trouble_110 : decode cX6_trouble 110 = .ok (.isub, 1) := by decide +kernel
theorem dX6_trouble_111 : decode cX6_trouble 111 = .ok (.aload_n 0, 1) := by decide +kernel
theorem dX6_trouble_112 : decode cX6_trouble 112 = .ok (.getfield 16, 3) := by decide +kernel
theorem dX6_trouble_115 : decode cX6_trouble 115 = .ok (.iload_n 2, 1) := by decide +kernel
theorem dX6_trouble_116 : decode cX6_trouble 116 = .ok (.iaload, 1) := by decide +kernel
theorem dX6_trouble_117 : decode cX6_trouble 117 = .ok (.iadd, 1) := by decide +kernel
theorem dX6_trouble_118 : decode cX6_trouble 118 = .ok (.if_icmp .gt 14, 3) := by decide +kernel
theorem dX6_trouble_121 : decode cX6_trouble 121 = .ok (.aload_n 0, 1) := by decide +kernel
theorem dX6_trouble_122 : decode cX6_trouble 122 = .ok (.getfield 19, 3) := by decide +kernel
theorem dX6_trouble_125 : decode cX6_trouble 125 = .ok (.iload_n 2, 1) := by decide +kernel
theorem dX6_trouble_126 : decode cX6_trouble 126 = .ok (.iaload, 1) := by decide +kernel
theorem dX6_trouble_127 : decode cX6_trouble 127 = .ok (.iload 6, 2) := by decide +kernel
theorem dX6_trouble_129 : decode cX6_trouble 129 = .ok (.if_icmp .ge 5, 3) := by decide +kernel
theorem dX6_trouble_132 : decode cX6_trouble 132 = .ok (.iconst 2, 1) := by decide +kernel
theorem dX6_trouble_133 : decode cX6_trouble 133 = .ok (.ireturn, 1) := by decide +kernel
theorem dX6_trouble_134 : decode cX6_trouble 134 = .ok (.aload_n 0, 1) := by decide +kernel
theorem dX6_trouble_135 : decode cX6_trouble 135 = .ok (.getfield 16, 3) := by decide +kernel
theorem dX6_trouble_138 : decode cX6_trouble 138 = .ok (.iload_n 2, 1) := by decide +kernel
theorem dX6_trouble_139 : decode cX6_trouble 139 = .ok (.iaload, 1) := by decide +kernel
theorem dX6_trouble_140 : decode cX6_trouble 140 = .ok (.ifCond .ne 30, 3) := by decide +kernel
theorem dX6_trouble_143 : decode cX6_trouble 143 = .ok (.aload_n 0, 1) := by decide +kernel
theorem dX6_trouble_144 : decode cX6_trouble 144 = .ok (.getfield 13, 3) := by decide +kernel
theorem dX6_trouble_147 : decode cX6_trouble 147 = .ok (.bipush 20, 2) := by decide +kernel
theorem dX6_trouble_149 : decode cX6_trouble 149 = .ok (.iload_n 1, 1) := by decide +kernel
theorem dX6_trouble_150 : decode cX6_trouble 150 = .ok (.imul, 1) := by decide +kernel
theorem dX6_trouble_151 : decode cX6_trouble 151 = .ok (.aload_n 0, 1) := by decide +kernel
theorem dX6_trouble_152 : decode cX6_trouble 152 = .ok (.getfield 19, 3) := by decide +kernel
theorem dX6_trouble_155 : decode cX6_trouble 155 = .ok (.iload_n 2, 1) := by decide +kernel
theorem dX6_trouble_156 : decode cX6_trouble 156 = .ok (.iaload, 1) := by decide +kernel
theorem dX6_trouble_157 : decode cX6_trouble 157 = .ok (.iadd, 1) := by decide +kernel
theorem dX6_trouble_158 : decode cX6_trouble 158 = .ok (.iaload, 1) := by decide +kernel
theorem dX6_trouble_159 : decode cX6_trouble 159 = .ok (.aload_n 0, 1) := by decide +kernel
theorem dX6_trouble_160 : decode cX6_trouble 160 = .ok (.getfield 22, 3) := by decide +kernel
theorem dX6_trouble_163 : decode cX6_trouble 163 = .ok (.iload_n 2, 1) := by decide +kernel
theorem dX6_trouble_164 : decode cX6_trouble 164 = .ok (.iaload, 1) := by decide +kernel
theorem dX6_trouble_165 : decode cX6_trouble 165 = .ok (.if_icmp .eq 5, 3) := by decide +kernel
theorem dX6_trouble_168 : decode cX6_trouble 168 = .ok (.iconst 3, 1) := by decide +kernel
theorem dX6_trouble_169 : decode cX6_trouble 169 = .ok (.ireturn, 1) := by decide +kernel
theorem dX6_trouble_170 : decode cX6_trouble 170 = .ok (.iload 4, 2) := by decide +kernel
theorem dX6_trouble_172 : decode cX6_trouble 172 = .ok (.aload_n 0, 1) := by decide +kernel
theorem dX6_trouble_173 : decode cX6_trouble 173 = .ok (.getfield 19, 3) := by decide +kernel
theorem dX6_trouble_176 : decode cX6_trouble 176 = .ok (.iload_n 2, 1) := by decide +kernel
theorem dX6_trouble_177 : decode cX6_trouble 177 = .ok (.iaload, 1) := by decide +kernel
theorem dX6_trouble_178 : decode cX6_trouble 178 = .ok (.iadd, 1) := by decide +kernel
theorem dX6_trouble_179 : decode cX6_trouble 179 = .ok (.iload_n 3, 1) := by decide +kernel
theorem dX6_trouble_180 : decode cX6_trouble 180 = .ok (.isub, 1) := by decide +kernel
theorem dX6_trouble_181 : decode cX6_trouble 181 = .ok (.istore 7, 2) := by decide +kernel
theorem dX6_trouble_183 : decode cX6_trouble 183 = .ok (.iload 7, 2) := by decide +kernel
theorem dX6_trouble_185 : decode cX6_trouble 185 = .ok (.aload_n 0, 1) := by decide +kernel
theorem dX6_trouble_186 : decode cX6_trouble 186 = .ok (.getfield 16, 3) := by decide +kernel
theorem dX6_trouble_189 : decode cX6_trouble 189 = .ok (.iload_n 2, 1) := by decide +kernel
theorem dX6_trouble_190 : decode cX6_trouble 190 = .ok (.iaload, 1) := by decide +kernel
theorem dX6_trouble_191 : decode cX6_trouble 191 = .ok (.iadd, 1) := by decide +kernel
theorem dX6_trouble_192 : decode cX6_trouble 192 = .ok (.bipush 60, 2) := by decide +kernel
theorem dX6_trouble_194 : decode cX6_trouble 194 = .ok (.if_icmp .le 7, 3) := by decide +kernel
theorem dX6_trouble_197 : decode cX6_trouble 197 = .ok (.iconst 4, 1) := by decide +kernel
theorem dX6_trouble_198 : decode cX6_trouble 198 = .ok (.goto 4, 3) := by decide +kernel
theorem dX6_trouble_201 : decode cX6_trouble 201 = .ok (.iconst 0, 1) := by decide +kernel
theorem dX6_trouble_202 : decode cX6_trouble 202 = .ok (.ireturn, 1) := by decide +kernel
set_option maxRecDepth 20000 in
theorem ggX6_wrong_X6_trouble : GoodIn wsX6_wrong wsX6_trouble := goodIn_r _ [9, 4, 3, 2, 10, 11, 12, 13, 14, 15, 16, 17, 18, 19, 20, 21, 22, 23, 24, 25, 26, 27, 28, 29, 30] (by decide +kernel) (by decide +kernel)
set_option maxRecDepth 20000 in
theorem gX6_wrong_X6_trouble : GoodIn wsX6_wrong (wsV RX6 86 RX6 yX6_trouble wsX6_trouble) := goodIn_app (goodIn_of _ (by decide +kernel)) ggX6_wrong_X6_trouble
theorem dX6_wrong_0 : decode cX6_wrong 0 = .ok (.iconst 0, 1) := by decide +kernel
theorem dX6_wrong_1 : decode cX6_wrong 1 = .ok (.istore_n 2, 1) := by decide +kernel
theorem dX6_wrong_2 : decode cX6_wrong 2 = .ok (.iconst 0, 1) := by decide +kernel
theorem dX6_wrong_3 : decode cX6_wrong 3 = .ok (.istore_n 3, 1) := by decide +kernel
theorem dX6_wrong_4 : decode cX6_wrong 4 = .ok (.iconst 0, 1) := by decide +kernel
theorem dX6_wrong_5 : decode cX6_wrong 5 = .ok (.istore 4, 2) := by decide +kernel
theorem dX6_wrong_7 : decode cX6_wrong 7 = .ok (.iload 4, 2) := by decide +kernel
theorem dX6_wrong_9 : decode cX6_wrong 9 = .ok (.aload_n 0, 1) := by decide +kernel
theorem dX6_wrong_10 : decode cX6_wrong 10 = .ok (.getfield 65, 3) := by decide +kernel
theorem dX6_wrong_13 : decode cX6_wrong 13 = .ok (.if_icmp .ge 66, 3) := by decide +kernel
theorem dX6_wrong_16 : decode cX6_wrong 16 = .ok (.aload_n 0, 1) := by decide +kernel
theorem dX6_wrong_17 : decode cX6_wrong 17 = .ok (.iload_n 1, 1) := by decide +kernel
theorem dX6_wrong_18 : decode cX6_wrong 18 = .ok (.iload 4, 2) := by decide +kernel
theorem dX6_wrong_20 : decode cX6_wrong 20 = .ok (.iload_n 2, 1) := by decide +kernel
theorem dX6_wrong_21 : decode cX6_wrong 21 = .ok (.iload_n 3, 1) := by decide +kernel
theorem dX6_wrong_22 : decode cX6_wrong 22 = .ok (.invokevirtual 86, 3) := by decide +kernel
theorem dX6_wrong_25 : decode cX6_wrong 25 = .ok (.istore 5, 2) := by decide +kernel
theorem dX6_wrong_27 : decode cX6_wrong 27 = .ok (.iload 5, 2) := by decide +kernel
theorem dX6_wrong_29 : decode cX6_wrong 29 = .ok (.ifCond .le 6, 3) := by decide +kernel
theorem dX6_wrong_32 : decode cX6_wrong 32 = .ok (.iload 5, 2) := by decide +kernel
theorem dX6_wrong_34 : decode cX6_wrong 34 = .ok (.ireturn, 1) := by decide +kernel
theorem dX6_wrong_35 : decode cX6_wrong 35 = .ok (.iload_n 3, 1) := by decide +kernel
theorem dX6_wrong_36 : decode cX6_wrong 36 = .ok (.aload_n 0, 1) := by decide +kernel
theorem dX6_wrong_37 : decode cX6_wrong 37 = .ok (.getfield 19, 3) := by decide +kernel
theorem dX6_wrong_40 : decode cX6_wrong 40 = .ok (.iload 4, 2) := by decide +kernel
theorem dX6_wrong_42 : decode cX6_wrong 42 = .ok (.iaload, 1) := by decide +kernel
theorem dX6_wrong_43 : decode cX6_wrong 43 = .ok (.iload_n 2, 1) := by decide +kernel
theorem dX6_wrong_44 : decode cX6_wrong 44 = .ok (.isub, 1) := by decide +kernel
theorem dX6_wrong_45 : decode cX6_wrong 45 = .ok (.aload_n 0, 1) := by decide +kernel
theorem dX6_wrong_46 : decode cX6_wrong 46 = .ok (.getfield 16, 3) := by decide +kernel
theorem dX6_wrong_49 : decode cX6_wrong 49 = .ok (.iload 4, 2) := by decide +kernel
theorem dX6_wrong_51 : decode cX6_wrong 51 = .ok (.iaload, 1) := by decide +kernel
theorem dX6_wrong_52 : decode cX6_wrong 52 = .ok (.iadd, 1) := by decide +kernel
theorem dX6_wrong_53 : decode cX6_wrong 53 = .ok (.iadd, 1) := by decide +kernel
theorem dX6_wrong_54 : decode cX6_wrong 54 = .ok (.istore_n 3, 1) := by decide +kernel
theorem dX6_wrong_55 : decode cX6_wrong 55 = .ok (.aload_n 0, 1) := by decide +kernel
theorem dX6_wrong_56 : decode cX6_wrong 56 = .ok (.getfield 19, 3) := by decide +kernel
theorem dX6_wrong_59 : decode cX6_wrong 59 = .ok (.iload 4, 2) := by decide +kernel
theorem dX6_wrong_61 : decode cX6_wrong 61 = .ok (.iaload, 1) := by decide +kernel
theorem dX6_wrong_62 : decode cX6_wrong 62 = .ok (.iconst 1, 1) := by decide +kernel
theorem dX6_wrong_63 : decode cX6_wrong 63 = .ok (.iadd, 1) := by decide +kernel
theorem dX6_wrong_64 : decode cX6_wrong 64 = .ok (.aload_n 0, 1) := by decide +kernel
theorem dX6_wrong_65 : decode cX6_wrong 65 = .ok (.getfield 16, 3) := by decide +kernel
theorem dX6_wrong_68 : decode cX6_wrong 68 = .ok (.iload 4, 2) := by decide +kernel
theorem dX6_wrong_70 : decode cX6_wrong 70 = .ok (.iaload, 1) := by decide +kernel
theorem dX6_wrong_71 : decode cX6_wrong 71 = .ok (.isub, 1) := by decide +kernel
theorem dX6_wrong_72 : decode cX6_wrong 72 = .ok (.istore_n 2, 1) := by decide +kernel
theorem dX6_wrong_73 : decode cX6_wrong 73 = .ok (.iinc 4 1, 3) := by decide +kernel
theorem dX6_wrong_76 : decode cX6_wrong 76 = .ok (.goto (-69), 3) := by decide +kernel
theorem dX6_wrong_79 : decode cX6_wrong 79 = .ok (.iload_n 3, 1) := by decide +kernel
theorem dX6_wrong_80 : decode cX6_wrong 80 = .ok (.aload_n 0, 1) := by decide +kernel
theorem dX6_wrong_81 : decode cX6_wrong 81 = .ok (.getfield 7, 3) := by decide +kernel
theorem dX6_wrong_84 : decode cX6_wrong 84 = .ok (.iload_n 1, 1) := by decide +kernel
theorem dX6_wrong_85 : decode cX6_wrong 85 = .ok (.iaload, 1) := by decide +kernel
theorem dX6_wrong_86 : decode cX6_wrong 86 = .ok (.iadd, 1) := by decide +kernel
theorem dX6_wrong_87 : decode cX6_wrong 87 = .ok (.iload_n 2, 1) := by decide +kernel
theorem dX6_wrong_88 : decode cX6_wrong 88 = .ok (.isub, 1) := by decide +kernel
theorem dX6_wrong_89 : decode cX6_wrong 89 = .ok (.bipush 60, 2) := by decide +kernel
theorem dX6_wrong_91 : decode cX6_wrong 91 = .ok (.if_icmp .le 7, 3) := by decide +kernel
theorem dX6_wrong_94 : decode cX6_wrong 94 = .ok (.iconst 4, 1) := by decide +kernel
theorem dX6_wrong_95 : decode cX6_wrong 95 = .ok (.goto 4, 3) := by decide +kernel
theorem dX6_wrong_98 : decode cX6_wrong 98 = .ok (.iconst 0, 1) := by decide +kernel
theorem dX6_wrong_99 : decode cX6_wrong 99 = .ok (.ireturn, 1) := by decide +kernel
theorem dX6_take_0 : decode cX6_take 0 = .ok (.aload_n 0, 1) := by decide +kernel
theorem dX6_take_1 : decode cX6_take 1 = .ok (.getfield 31, 3) := by decide +kernel
theorem dX6_take_4 : decode cX6_take 4 = .ok (.aload_n 0, 1) := by decide +kernel
theorem dX6_take_5 : decode cX6_take 5 = .ok (.getfield 90, 3) := by decide +kernel
theorem dX6_take_8 : decode cX6_take 8 = .ok (.iload_n 1, 1) := by decide +kernel
theorem dX6_take_9 : decode cX6_take 9 = .ok (.iastore, 1) := by decide +kernel
theorem dX6_take_10 : decode cX6_take 10 = .ok (.aload_n 0, 1) := by decide +kernel
theorem dX6_take_11 : decode cX6_take 11 = .ok (.dup, 1) := by decide +kernel
theorem dX6_take_12 : decode cX6_take 12 = .ok (.getfield 90, 3) := by decide +kernel
theorem dX6_take_15 : decode cX6_take 15 = .ok (.iconst 1, 1) := by decide +kernel
theorem dX6_take_16 : decode cX6_take 16 = .ok (.iadd, 1) := by decide +kernel
theorem dX6_take_17 : decode cX6_take 17 = .ok (.putfield 90, 3) := by decide +kernel
theorem dX6_take_20 : decode cX6_take 20 = .ok (.return_, 1) := by decide +kernel
set_option maxRecDepth 20000 in
theorem ggX6_patch_X6_isRow : GoodIn wsX6_patch wsX6_isRow := goodIn_r _ [12] (by decide +kernel) (by decide +kernel)
set_option maxRecDepth 20000 in
theorem gX6_patch_X6_isRow : GoodIn wsX6_patch (va_wsS RX6 53 yX6_isRow wsX6_isRow) := goodIn_app (goodIn_of _ (by decide +kernel)) ggX6_patch_X6_isRow
set_option maxRecDepth 20000 in
theorem ggX6_patch_X6_wrong : GoodIn wsX6_patch wsX6_wrong := goodIn_r _ [16, 4, 5, 6, 3, 17, 18, 19, 11, 20, 7, 8, 26, 27, 28, 29, 30, 31, 32, 33, 34, 35, 36, 37, 38, 39, 40, 41, 42, 43, 44] (by decide +kernel) (by decide +kernel)
set_option maxRecDepth 20000 in
theorem gX6_patch_X6_wrong : GoodIn wsX6_patch (wsV RX6 93 RX6 yX6_wrong wsX6_wrong) := goodIn_app (goodIn_of _ (by decide +kernel)) ggX6_patch_X6_wrong
set_option maxRecDepth 20000 in
theorem ggX6_patch_X6_take : GoodIn wsX6_patch wsX6_take := goodIn_r _ [24, 25, 2, 26, 27, 28, 29, 30, 31, 32, 33, 34, 35, 36, 37, 38, 39, 40, 41, 42, 43, 44] (by decide +kernel) (by decide +kernel)
set_option maxRecDepth 20000 in
theorem gX6_patch_X6_take : GoodIn wsX6_patch (wsV RX6 97 RX6 yX6_take wsX6_take) := goodIn_app (goodIn_of _ (by decide +kernel)) ggX6_patch_X6_take
theorem dX6_patch_0 : decode cX6_patch 0 = .ok (.aload_n 0, 1) := by decide +kernel
theorem dX6_patch_1 : decode cX6_patch 1 = .ok (.iload_n 1, 1) := by decide +kernel
theorem dX6_patch_2 : decode cX6_patch 2 = .ok (.invokestatic 53, 3) := by decide +kernel
theorem dX6_patch_5 : decode cX6_patch 5 = .ok (.ifCond .ne 7, 3) := by decide +kernel
theorem dX6_patch_8 : decode cX6_patch 8 = .ok (.iconst 1, 1) := by decide +kernel
theorem dX6_patch_9 : decode cX6_patch 9 = .ok (.goto 8, 3) := by decide +kernel
theorem dX6_patch_12 : decode cX6_patch 12 = .ok (.aload_n 0, 1) := by decide +kernel
theorem dX6_patch_13 : decode cX6_patch 13 = .ok (.iload_n 1, 1) := by decide +kernel
theorem dX6_patch_14 : decode cX6_patch 14 = .ok (.invokevirtual 93, 3) := by decide +kernel
theorem dX6_patch_17 : decode cX6_patch 17 = .ok (.putfield 50, 3) := by decide +kernel
theorem dX6_patch_20 : decode cX6_patch 20 = .ok (.aload_n 0, 1) := by decide +kernel
theorem dX6_patch_21 : decode cX6_patch 21 = .ok (.getfield 50, 3) := by decide +kernel
theorem dX6_patch_24 : decode cX6_patch 24 = .ok (.ifCond .le 5, 3) := by decide +kernel
theorem dX6_patch_27 : decode cX6_patch 27 = .ok (.iconst 0, 1) := by decide +kernel
theorem dX6_patch_28 : decode cX6_patch 28 = .ok (.ireturn, 1) := by decide +kernel
theorem dX6_patch_29 : decode cX6_patch 29 = .ok (.aload_n 0, 1) := by decide +kernel
theorem dX6_patch_30 : decode cX6_patch 30 = .ok (.iconst 0, 1) := by decide +kernel
theorem dX6_patch_31 : decode cX6_patch 31 = .ok (.putfield 90, 3) := by decide +kernel
theorem dX6_patch_34 : decode cX6_patch 34 = .ok (.iconst 0, 1) := by decide +kernel
theorem dX6_patch_35 : decode cX6_patch 35 = .ok (.istore_n 2, 1) := by decide +kernel
theorem dX6_patch_36 : decode cX6_patch 36 = .ok (.iconst 0, 1) := by decide +kernel
theorem dX6_patch_37 : decode cX6_patch 37 = .ok (.istore_n 3, 1) := by decide +kernel
theorem dX6_patch_38 : decode cX6_patch 38 = .ok (.iload_n 3, 1) := by decide +kernel
theorem dX6_patch_39 : decode cX6_patch 39 = .ok (.aload_n 0, 1) := by decide +kernel
theorem dX6_patch_40 : decode cX6_patch 40 = .ok (.getfield 7, 3) := by decide +kernel
theorem dX6_patch_43 : decode cX6_patch 43 = .ok (.iload_n 1, 1) := by decide +kernel
theorem dX6_patch_44 : decode cX6_patch 44 = .ok (.iaload, 1) := by decide +kernel
theorem dX6_patch_45 : decode cX6_patch 45 = .ok (.if_icmp .gt 92, 3) := by decide +kernel
theorem dX6_patch_48 : decode cX6_patch 48 = .ok (.iconst 0, 1) := by decide +kernel
theorem dX6_patch_49 : decode cX6_patch 49 = .ok (.istore 4, 2) := by decide +kernel
theorem dX6_patch_51 : decode cX6_patch 51 = .ok (.iload_n 2, 1) := by decide +kernel
theorem dX6_patch_52 : decode cX6_patch 52 = .ok (.aload_n 0, 1) := by decide +kernel
theorem dX6_patch_53 : decode cX6_patch 53 = .ok (.getfield 65, 3) := by decide +kernel
theorem dX6_patch_56 : decode cX6_patch 56 = .ok (.if_icmp .ge 45, 3) := by decide +kernel
theorem dX6_patch_59 : decode cX6_patch 59 = .ok (.aload_n 0, 1) := by decide +kernel
theorem dX6_patch_60 : decode cX6_patch 60 = .ok (.getfield 19, 3) := by decide +kernel
theorem dX6_patch_63 : decode cX6_patch 63 = .ok (.iload_n 2, 1) := by decide +kernel
theorem dX6_patch_64 : decode cX6_patch 64 = .ok (.iaload, 1) := by decide +kernel
theorem dX6_patch_65 : decode cX6_patch 65 = .ok (.iload_n 3, 1) := by decide +kernel
theorem dX6_patch_66 : decode cX6_patch 66 = .ok (.if_icmp .ne 35, 3) := by decide +kernel
theorem dX6_patch_69 : decode cX6_patch 69 = .ok (.aload_n 0, 1) := by decide +kernel
theorem dX6_patch_70 : decode cX6_patch 70 = .ok (.getfield 16, 3) := by decide +kernel
theorem dX6_patch_73 : decode cX6_patch 73 = .ok (.iload_n 2, 1) := by decide +kernel
theorem dX6_patch_74 : decode cX6_patch 74 = .ok (.iaload, 1) := by decide +kernel
theorem dX6_patch_75 : decode cX6_patch 75 = .ok (.iconst 1, 1) := by decide +kernel
theorem dX6_patch_76 : decode cX6_patch 76 = .ok (.if_icmp .ne 16, 3) := by decide +kernel
theorem dX6_patch_79 : decode cX6_patch 79 = .ok (.aload_n 0, 1) := by decide +kernel
theorem dX6_patch_80 : decode cX6_patch 80 = .ok (.aload_n 0, 1) := by decide +kernel
theorem dX6_patch_81 : decode cX6_patch 81 = .ok (.getfield 22, 3) := by decide +kernel
theorem dX6_patch_84 : decode cX6_patch 84 = .ok (.iload_n 2, 1) := by decide +kernel
theorem dX6_patch_85 : decode cX6_patch 85 = .ok (.iaload, 1) := by decide +kernel
theorem dX6_patch_86 : decode cX6_patch 86 = .ok (.invokevirtual 97, 3) := by decide +kernel
theorem dX6_patch_89 : decode cX6_patch 89 = .ok (.goto 6, 3) := by decide +kernel
theorem dX6_patch_92 : decode cX6_patch 92 = .ok (.iconst 1, 1) := by decide +kernel
theorem dX6_patch_93 : decode cX6_patch 93 = .ok (.istore 4, 2) := by decide +kernel
theorem dX6_patch_95 : decode cX6_patch 95 = .ok (.iinc 2 1, 3) := by decide +kernel
theorem dX6_patch_98 : decode cX6_patch 98 = .ok (.goto (-47), 3) := by decide +kernel
theorem dX6_patch_101 : decode cX6_patch 101 = .ok (.iload_n 3, 1) := by decide +kernel
theorem dX6_patch_102 : decode cX6_patch 102 = .ok (.aload_n 0, 1) := by decide +kernel
theorem dX6_patch_103 : decode cX6_patch 103 = .ok (.getfield 7, 3) := by decide +kernel
theorem dX6_patch_106 : decode cX6_patch 106 = .ok (.iload_n 1, 1) := by decide +kernel
theorem dX6_patch_107 : decode cX6_patch 107 = .ok (.iaload, 1) := by decide +kernel
theorem dX6_patch_108 : decode cX6_patch 108 = .ok (.if_icmp .ge 23, 3) := by decide +kernel
theorem dX6_patch_111 : decode cX6_patch 111 = .ok (.iload 4, 2) := by decide +kernel
theorem dX6_patch_113 : decode cX6_patch 113 = .ok (.ifCond .ne 18, 3) := by decide +kernel
theorem dX6_patch_116 : decode cX6_patch 116 = .ok (.aload_n 0, 1) := by decide +kernel
theorem dX6_patch_117 : decode cX6_patch 117 = .ok (.aload_n 0, 1) := by decide +kernel
theorem dX6_patch_118 : decode cX6_patch 118 = .ok (.getfield 13, 3) := by decide +kernel
theorem dX6_patch_121 : decode cX6_patch 121 = .ok (.bipush 20, 2) := by decide +kernel
theorem dX6_patch_123 : decode cX6_patch 123 = .ok (.iload_n 1, 1) := by decide +kernel
theorem dX6_patch_124 : decode cX6_patch 124 = .ok (.imul, 1) := by decide +kernel
theorem dX6_patch_125 : decode cX6_patch 125 = .ok (.iload_n 3, 1) := by decide +kernel
theorem dX6_patch_126 : decode cX6_patch 126 = .ok (.iadd, 1) := by decide +kernel
theorem dX6_patch_127 : decode cX6_patch 127 = .ok (.iaload, 1) := by decide +kernel
theorem dX6_patch_128 : decode cX6_patch 128 = .ok (.invokevirtual 97, 3) := by decide +kernel
theorem dX6_patch_131 : decode cX6_patch 131 = .ok (.iinc 3 1, 3) := by decide +kernel
theorem dX6_patch_134 : decode cX6_patch 134 = .ok (.goto (-96), 3) := by decide +kernel
theorem dX6_patch_137 : decode cX6_patch 137 = .ok (.aload_n 0, 1) := by decide +kernel
theorem dX6_patch_138 : decode cX6_patch 138 = .ok (.getfield 90, 3) := by decide +kernel
theorem dX6_patch_141 : decode cX6_patch 141 = .ok (.ireturn, 1) := by decide +kernel
set_option maxRecDepth 20000 in
theorem ggX6_keep_X6_fill : GoodIn wsX6_keep wsX6_fill := goodIn_r _ [6, 1, 7, 8, 9, 10, 5, 11, 12, 17, 18, 19, 20, 21, 22, 23, 24, 25, 26, 27, 28, 29, 30, 31, 32, 33, 34, 35] (by decide +kernel) (by decide +kernel)
set_option maxRecDepth 20000 in
theorem gX6_keep_X6_fill : GoodIn wsX6_keep (wsV RX6 61 RX6 yX6_fill wsX6_fill) := goodIn_app (goodIn_of _ (by decide +kernel)) ggX6_keep_X6_fill
set_option maxRecDepth 20000 in
theorem ggX6_keep_X6_same : GoodIn wsX6_keep wsX6_same := goodIn_r _ [11, 12, 17, 18, 19, 20, 21, 22, 23, 24, 25, 26, 27, 28, 29, 30, 31, 32, 33, 34, 35] (by decide +kernel) (by decide +kernel)
set_option maxRecDepth 20000 in
theorem gX6_keep_X6_same : GoodIn wsX6_keep (wsV RX6 57 RX6 yX6_same wsX6_same) := goodIn_app (goodIn_of _ (by decide +kernel)) ggX6_keep_X6_same
set_option maxRecDepth 20000 in
theorem ggX6_keep_X6_deletes : GoodIn wsX6_keep wsX6_deletes := goodIn_r _ [16, 1, 7, 17, 18, 19, 20, 21, 22, 23, 24, 25, 26, 27, 28, 29, 30, 31, 32, 33, 34, 35] (by decide +kernel) (by decide +kernel)
set_option maxRecDepth 20000 in
theorem gX6_keep_X6_deletes : GoodIn wsX6_keep (wsV RX6 68 RX6 yX6_deletes wsX6_deletes) := goodIn_app (goodIn_of _ (by decide +kernel)) ggX6_keep_X6_deletes
theorem dX6_keep_0 : decode cX6_keep 0 = .ok (.aload_n 0, 1) := by decide +kernel
theorem dX6_keep_1 : decode cX6_keep 1 = .ok (.iconst 0, 1) := by decide +kernel
theorem dX6_keep_2 : decode cX6_keep 2 = .ok (.iload_n 1, 1) := by decide +kernel
theorem dX6_keep_3 : decode cX6_keep 3 = .ok (.invokevirtual 61, 3) := by decide +kernel
theorem dX6_keep_6 : decode cX6_keep 6 = .ok (.iconst 0, 1) := by decide +kernel
theorem dX6_keep_7 : decode cX6_keep 7 = .ok (.istore_n 3, 1) := by decide +kernel
theorem dX6_keep_8 : decode cX6_keep 8 = .ok (.iconst 0, 1) := by decide +kernel
theorem dX6_keep_9 : decode cX6_keep 9 = .ok (.istore 4, 2) := by decide +kernel
theorem dX6_keep_11 : decode cX6_keep 11 = .ok (.iload_n 3, 1) := by decide +kernel
theorem dX6_keep_12 : decode cX6_keep 12 = .ok (.aload_n 0, 1) := by decide +kernel
theorem dX6_keep_13 : decode cX6_keep 13 = .ok (.getfield 7, 3) := by decide +kernel
theorem dX6_keep_16 : decode cX6_keep 16 = .ok (.iconst 0, 1) := by decide +kernel
theorem dX6_keep_17 : decode cX6_keep 17 = .ok (.iaload, 1) := by decide +kernel
theorem dX6_keep_18 : decode cX6_keep 18 = .ok (.if_icmp .lt 14, 3) := by decide +kernel
theorem dX6_keep_21 : decode cX6_keep 21 = .ok (.iload 4, 2) := by decide +kernel
theorem dX6_keep_23 : decode cX6_keep 23 = .ok (.aload_n 0, 1) := by decide +kernel
theorem dX6_keep_24 : decode cX6_keep 24 = .ok (.getfield 7, 3) := by decide +kernel
theorem dX6_keep_27 : decode cX6_keep 27 = .ok (.iload_n 1, 1) := by decide +kernel
theorem dX6_keep_28 : decode cX6_keep 28 = .ok (.iaload, 1) := by decide +kernel
theorem dX6_keep_29 : decode cX6_keep 29 = .ok (.if_icmp .ge 79, 3) := by decide +kernel
theorem dX6_keep_32 : decode cX6_keep 32 = .ok (.iload_n 3, 1) := by decide +kernel
theorem dX6_keep_33 : decode cX6_keep 33 = .ok (.aload_n 0, 1) := by decide +kernel
theorem dX6_keep_34 : decode cX6_keep 34 = .ok (.getfield 7, 3) := by decide +kernel
theorem dX6_keep_37 : decode cX6_keep 37 = .ok (.iconst 0, 1) := by decide +kernel
theorem dX6_keep_38 : decode cX6_keep 38 = .ok (.iaload, 1) := by decide +kernel
theorem dX6_keep_39 : decode cX6_keep 39 = .ok (.if_icmp .ge 42, 3) := by decide +kernel
theorem dX6_keep_42 : decode cX6_keep 42 = .ok (.iload 4, 2) := by decide +kernel
theorem dX6_keep_44 : decode cX6_keep 44 = .ok (.aload_n 0, 1) := by decide +kernel
theorem dX6_keep_45 : decode cX6_keep 45 = .ok (.getfield 7, 3) := by decide +kernel
theorem dX6_keep_48 : decode cX6_keep 48 = .ok (.iload_n 1, 1) := by decide +kernel
theorem dX6_keep_49 : decode cX6_keep 49 = .ok (.iaload, 1) := by decide +kernel
theorem dX6_keep_50 : decode cX6_keep 50 = .ok (.if_icmp .ge 31, 3) := by decide +kernel
theorem dX6_keep_53 : decode cX6_keep 53 = .ok (.aload_n 0, 1) := by decide +kernel
theorem dX6_keep_54 : decode cX6_keep 54 = .ok (.iconst 0, 1) := by decide +kernel
theorem dX6_keep_55 : decode cX6_keep 55 = .ok (.iload_n 3, 1) := by decide +kernel
theorem dX6_keep_56 : decode cX6_keep 56 = .ok (.iload_n 1, 1) := by decide +kernel
theorem dX6_keep_57 : decode cX6_keep 57 = .ok (.iload 4, 2) := by decide +kernel
theorem dX6_keep_59 : decode cX6_keep 59 = .ok (.invokevirtual 57, 3) := by decide +kernel
theorem dX6_keep_62 : decode cX6_keep 62 = .ok (.ifCond .eq 19, 3) := by decide +kernel
theorem dX6_keep_65 : decode cX6_keep 65 = .ok (.aload_n 2, 1) := by decide +kernel
theorem dX6_keep_66 : decode cX6_keep 66 = .ok (.iload_n 3, 1) := by decide +kernel
theorem dX6_keep_67 : decode cX6_keep 67 = .ok (.iload 4, 2) := by decide +kernel
theorem dX6_keep_69 : decode cX6_keep 69 = .ok (.iconst 1, 1) := by decide +kernel
theorem dX6_keep_70 : decode cX6_keep 70 = .ok (.iadd, 1) := by decide +kernel
theorem dX6_keep_71 : decode cX6_keep 71 = .ok (.iastore, 1) := by decide +kernel
theorem dX6_keep_72 : decode cX6_keep 72 = .ok (.iinc 3 1, 3) := by decide +kernel
theorem dX6_keep_75 : decode cX6_keep 75 = .ok (.iinc 4 1, 3) := by decide +kernel
theorem dX6_keep_78 : decode cX6_keep 78 = .ok (.goto (-67), 3) := by decide +kernel
theorem dX6_keep_81 : decode cX6_keep 81 = .ok (.aload_n 0, 1) := by decide +kernel
theorem dX6_keep_82 : decode cX6_keep 82 = .ok (.iconst 0, 1) := by decide +kernel
theorem dX6_keep_83 : decode cX6_keep 83 = .ok (.iload_n 3, 1) := by decide +kernel
theorem dX6_keep_84 : decode cX6_keep 84 = .ok (.iload 4, 2) := by decide +kernel
theorem dX6_keep_86 : decode cX6_keep 86 = .ok (.invokevirtual 68, 3) := by decide +kernel
theorem dX6_keep_89 : decode cX6_keep 89 = .ok (.ifCond .eq 13, 3) := by decide +kernel
theorem dX6_keep_92 : decode cX6_keep 92 = .ok (.aload_n 2, 1) := by decide +kernel
theorem dX6_keep_93 : decode cX6_keep 93 = .ok (.iload_n 3, 1) := by decide +kernel
theorem dX6_keep_94 : decode cX6_keep 94 = .ok (.iconst 0, 1) := by decide +kernel
theorem dX6_keep_95 : decode cX6_keep 95 = .ok (.iastore, 1) := by decide +kernel
theorem dX6_keep_96 : decode cX6_keep 96 = .ok (.iinc 3 1, 3) := by decide +kernel
theorem dX6_keep_99 : decode cX6_keep 99 = .ok (.goto (-88), 3) := by decide +kernel
theorem dX6_keep_102 : decode cX6_keep 102 = .ok (.iinc 4 1, 3) := by decide +kernel
theorem dX6_keep_105 : decode cX6_keep 105 = .ok (.goto (-94), 3) := by decide +kernel
theorem dX6_keep_108 : decode cX6_keep 108 = .ok (.return_, 1) := by decide +kernel
set_option maxRecDepth 20000 in
theorem ggX6_alikeParts_X6_same : GoodIn wsX6_alikeParts wsX6_same := goodIn_r _ [5, 6, 7, 8, 9, 10, 11, 12, 13, 14, 15, 16, 17, 18, 19, 20, 21, 22, 23, 24, 25] (by decide +kernel) (by decide +kernel)
set_option maxRecDepth 20000 in
theorem gX6_alikeParts_X6_same : GoodIn wsX6_alikeParts (wsV RX6 57 RX6 yX6_same wsX6_same) := goodIn_app (goodIn_of _ (by decide +kernel)) ggX6_alikeParts_X6_same
theorem dX6_alikeParts_0 : decode cX6_alikeParts 0 = .ok (.iload_n 3, 1) := by decide +kernel
theorem dX6_alikeParts_1 : decode cX6_alikeParts 1 = .ok (.iload 6, 2) := by decide +kernel
theorem dX6_alikeParts_3 : decode cX6_alikeParts 3 = .ok (.if_icmp .ne 7, 3) := by decide +kernel
theorem dX6_alikeParts_6 : decode cX6_alikeParts 6 = .ok (.iconst 1, 1) := by decide +kernel
theorem dX6_alikeParts_7 : decode cX6_alikeParts 7 = .ok (.goto 4, 3) := by decide +kernel
theorem dX6_alikeParts_10 : decode cX6_alikeParts 10 = .ok (.iconst 0, 1) := by decide +kernel
theorem dX6_alikeParts_11 : decode cX6_alikeParts 11 = .ok (.istore 7, 2) := by decide +kernel
theorem dX6_alikeParts_13 : decode cX6_alikeParts 13 = .ok (.iconst 0, 1) := by decide +kernel
theorem dX6_alikeParts_14 : decode cX6_alikeParts 14 = .ok (.istore 8, 2) := by decide +kernel
theorem dX6_alikeParts_16 : decode cX6_alikeParts 16 = .ok (.iload 8, 2) := by decide +kernel
theorem dX6_alikeParts_18 : decode cX6_alikeParts 18 = .ok (.iload_n 3, 1) := by decide +kernel
theorem dX6_alikeParts_19 : decode cX6_alikeParts 19 = .ok (.if_icmp .ge 32, 3) := by decide +kernel
theorem dX6_alikeParts_22 : decode cX6_alikeParts 22 = .ok (.iload 7, 2) := by decide +kernel
theorem dX6_alikeParts_24 : decode cX6_alikeParts 24 = .ok (.ifCond .eq 27, 3) := by decide +kernel
theorem dX6_alikeParts_27 : decode cX6_alikeParts 27 = .ok (.aload_n 0, 1) := by decide +kernel
theorem dX6_alikeParts_28 : decode cX6_alikeParts 28 = .ok (.iload_n 1, 1) := by decide +kernel
theorem dX6_alikeParts_29 : decode cX6_alikeParts 29 = .ok (.iload_n 2, 1) := by decide +kernel
theorem dX6_alikeParts_30 : decode cX6_alikeParts 30 = .ok (.iload 8, 2) := by decide +kernel
theorem dX6_alikeParts_32 : decode cX6_alikeParts 32 = .ok (.iadd, 1) := by decide +kernel
theorem dX6_alikeParts_33 : decode cX6_alikeParts 33 = .ok (.iload 4, 2) := by decide +kernel
theorem dX6_alikeParts_35 : decode cX6_alikeParts 35 = .ok (.iload 5, 2) := by decide +kernel
theorem dX6_alikeParts_37 : decode cX6_alikeParts 37 = .ok (.iload 8, 2) := by decide +kernel
theorem dX6_alikeParts_39 : decode cX6_alikeParts 39 = .ok (.iadd, 1) := by decide +kernel
theorem dX6_alikeParts_40 : decode cX6_alikeParts 40 = .ok (.invokevirtual 57, 3) := by decide +kernel
theorem dX6_alikeParts_43 : decode cX6_alikeParts 43 = .ok (.istore 7, 2) := by decide +kernel
theorem dX6_alikeParts_45 : decode cX6_alikeParts 45 = .ok (.iinc 8 1, 3) := by decide +kernel
theorem dX6_alikeParts_48 : decode cX6_alikeParts 48 = .ok (.goto (-32), 3) := by decide +kernel
theorem dX6_alikeParts_51 : decode cX6_alikeParts 51 = .ok (.iload 7, 2) := by decide +kernel
theorem dX6_alikeParts_53 : decode cX6_alikeParts 53 = .ok (.ireturn, 1) := by decide +kernel
set_option maxRecDepth 20000 in
theorem ggX6_copy_X6_take : GoodIn wsX6_copy wsX6_take := goodIn_r _ [6, 7, 8, 9, 10, 11, 12, 13, 14, 15, 16, 17, 18, 19, 20, 21, 22, 23, 24, 25, 26, 27] (by decide +kernel) (by decide +kernel)
set_option maxRecDepth 20000 in
theorem gX6_copy_X6_take : GoodIn wsX6_copy (wsV RX6 97 RX6 yX6_take wsX6_take) := goodIn_app (goodIn_of _ (by decide +kernel)) ggX6_copy_X6_take
theorem dX6_copy_0 : decode cX6_copy 0 = .ok (.iload_n 2, 1) := by decide +kernel
theorem dX6_copy_1 : decode cX6_copy 1 = .ok (.istore 4, 2) := by decide +kernel
theorem dX6_copy_3 : decode cX6_copy 3 = .ok (.iload 4, 2) := by decide +kernel
theorem dX6_copy_5 : decode cX6_copy 5 = .ok (.iload_n 3, 1) := by decide +kernel
theorem dX6_copy_6 : decode cX6_copy 6 = .ok (.if_icmp .ge 25, 3) := by decide +kernel
theorem dX6_copy_9 : decode cX6_copy 9 = .ok (.aload_n 0, 1) := by decide +kernel
theorem dX6_copy_10 : decode cX6_copy 10 = .ok (.aload_n 0, 1) := by decide +kernel
theorem dX6_copy_11 : decode cX6_copy 11 = .ok (.getfield 13, 3) := by decide +kernel
theorem dX6_copy_14 : decode cX6_copy 14 = .ok (.bipush 20, 2) := by decide +kernel
theorem dX6_copy_16 : decode cX6_copy 16 = .ok (.iload_n 1, 1) := by decide +kernel
theorem dX6_copy_17 : decode cX6_copy 17 = .ok (.imul, 1) := by decide +kernel
theorem dX6_copy_18 : decode cX6_copy 18 = .ok (.iload 4, 2) := by decide +kernel
theorem dX6_copy_20 : decode cX6_copy 20 = .ok (.iadd, 1) := by decide +kernel
theorem dX6_copy_21 : decode cX6_copy 21 = .ok (.iaload, 1) := by decide +kernel
theorem dX6_copy_22 : decode cX6_copy 22 = .ok (.invokevirtual 97, 3) := by decide +kernel
theorem dX6_copy_25 : decode cX6_copy 25 = .ok (.iinc 4 1, 3) := by decide +kernel
theorem dX6_copy_28 : decode cX6_copy 28 = .ok (.goto (-25), 3) := by decide +kernel
theorem dX6_copy_31 : decode cX6_copy 31 = .ok (.return_, 1) := by decide +kernel
set_option maxRecDepth 20000 in
theorem ggX6_between_X6_alikeParts : GoodIn wsX6_between wsX6_alikeParts := goodIn_r _ [5, 6, 7, 8, 4, 9, 10, 21, 22, 23, 24, 25, 26, 27, 28, 29, 30, 31, 32, 33, 34, 35, 36, 37, 38, 39] (by decide +kernel) (by decide +kernel)
set_option maxRecDepth 20000 in
theorem gX6_between_X6_alikeParts : GoodIn wsX6_between (wsV RX6 101 RX6 yX6_alikeParts wsX6_alikeParts) := goodIn_app (goodIn_of _ (by decide +kernel)) ggX6_between_X6_alikeParts
set_option maxRecDepth 20000 in
theorem ggX6_between_X6_copy : GoodIn wsX6_between wsX6_copy := goodIn_r _ [14, 10, 15, 16, 17, 4, 18, 19, 20, 21, 22, 23, 24, 25, 26, 27, 28, 29, 30, 31, 32, 33, 34, 35, 36, 37, 38, 39] (by decide +kernel) (by decide +kernel)
set_option maxRecDepth 20000 in
theorem gX6_between_X6_copy : GoodIn wsX6_between (wsV RX6 105 RX6 yX6_copy wsX6_copy) := goodIn_app (goodIn_of _ (by decide +kernel)) ggX6_between_X6_copy
set_option maxRecDepth 20000 in
theorem ggX6_between_X6_take : GoodIn wsX6_between wsX6_take := goodIn_r _ [18, 19, 20, 21, 22, 23, 24, 25, 26, 27, 28, 29, 30, 31, 32, 33, 34, 35, 36, 37, 38, 39] (by decide +kernel) (by decide +kernel)
set_option maxRecDepth 20000 in
theorem gX6_between_X6_take : GoodIn wsX6_between (wsV RX6 97 RX6 yX6_take wsX6_take) := goodIn_app (goodIn_of _ (by decide +kernel)) ggX6_between_X6_take
theorem dX6_between_0 : decode cX6_between 0 = .ok (.aload_n 0, 1) := by decide +kernel
theorem dX6_between_1 : decode cX6_between 1 = .ok (.iconst 1, 1) := by decide +kernel
theorem dX6_between_2 : decode cX6_between 2 = .ok (.iload_n 3, 1) := by decide +kernel
theorem dX6_between_3 : decode cX6_between 3 = .ok (.iload 4, 2) := by decide +kernel
theorem dX6_between_5 : decode cX6_between 5 = .ok (.iload_n 3, 1) := by decide +kernel
theorem dX6_between_6 : decode cX6_between 6 = .ok (.isub, 1) := by decide +kernel
theorem dX6_between_7 : decode cX6_between 7 = .ok (.iconst 2, 1) := by decide +kernel
theorem dX6_between_8 : decode cX6_between 8 = .ok (.iload 5, 2) := by decide +kernel
theorem dX6_between_10 : decode cX6_between 10 = .ok (.iload 6, 2) := by decide +kernel
theorem dX6_between_12 : decode cX6_between 12 = .ok (.iload 5, 2) := by decide +kernel
theorem dX6_between_14 : decode cX6_between 14 = .ok (.isub, 1) := by decide +kernel
theorem dX6_between_15 : decode cX6_between 15 = .ok (.invokevirtual 101, 3) := by decide +kernel
theorem dX6_between_18 : decode cX6_between 18 = .ok (.istore 7, 2) := by decide +kernel
theorem dX6_between_20 : decode cX6_between 20 = .ok (.iload 7, 2) := by decide +kernel
theorem dX6_between_22 : decode cX6_between 22 = .ok (.ifCond .ne 23, 3) := by decide +kernel
theorem dX6_between_25 : decode cX6_between 25 = .ok (.aload_n 0, 1) := by decide +kernel
theorem dX6_between_26 : decode cX6_between 26 = .ok (.iconst 0, 1) := by decide +kernel
theorem dX6_between_27 : decode cX6_between 27 = .ok (.iload_n 1, 1) := by decide +kernel
theorem dX6_between_28 : decode cX6_between 28 = .ok (.iload_n 2, 1) := by decide +kernel
theorem dX6_between_29 : decode cX6_between 29 = .ok (.iload_n 1, 1) := by decide +kernel
theorem dX6_between_30 : decode cX6_between 30 = .ok (.isub, 1) := by decide +kernel
theorem dX6_between_31 : decode cX6_between 31 = .ok (.iconst 2, 1) := by decide +kernel
theorem dX6_between_32 : decode cX6_between 32 = .ok (.iload 5, 2) := by decide +kernel
theorem dX6_between_34 : decode cX6_between 34 = .ok (.iload 6, 2) := by decide +kernel
theorem dX6_between_36 : decode cX6_between 36 = .ok (.iload 5, 2) := by decide +kernel
theorem dX6_between_38 : decode cX6_between 38 = .ok (.isub, 1) := by decide +kernel
theorem dX6_between_39 : decode cX6_between 39 = .ok (.invokevirtual 101, 3) := by decide +kernel
theorem dX6_between_42 : decode cX6_between 42 = .ok (.ifCond .eq 13, 3) := by decide +kernel
theorem dX6_between_45 : decode cX6_between 45 = .ok (.aload_n 0, 1) := by decide +kernel
theorem dX6_between_46 : decode cX6_between 46 = .ok (.iconst 1, 1) := by decide +kernel
theorem dX6_between_47 : decode cX6_between 47 = .ok (.iload_n 3, 1) := by decide +kernel
theorem dX6_between_48 : decode cX6_between 48 = .ok (.iload 4, 2) := by decide +kernel
theorem dX6_between_50 : decode cX6_between 50 = .ok (.invokevirtual 105, 3) := by decide +kernel
theorem dX6_between_53 : decode cX6_between 53 = .ok (.iconst 0, 1) := by decide +kernel
theorem dX6_between_54 : decode cX6_between 54 = .ok (.ireturn, 1) := by decide +kernel
theorem dX6_between_55 : decode cX6_between 55 = .ok (.aload_n 0, 1) := by decide +kernel
theorem dX6_between_56 : decode cX6_between 56 = .ok (.iconst 0, 1) := by decide +kernel
theorem dX6_between_57 : decode cX6_between 57 = .ok (.iload_n 1, 1) := by decide +kernel
theorem dX6_between_58 : decode cX6_between 58 = .ok (.iload_n 2, 1) := by decide +kernel
theorem dX6_between_59 : decode cX6_between 59 = .ok (.iload_n 1, 1) := by decide +kernel
theorem dX6_between_60 : decode cX6_between 60 = .ok (.isub, 1) := by decide +kernel
theorem dX6_between_61 : decode cX6_between 61 = .ok (.iconst 1, 1) := by decide +kernel
theorem dX6_between_62 : decode cX6_between 62 = .ok (.iload_n 3, 1) := by decide +kernel
theorem dX6_between_63 : decode cX6_between 63 = .ok (.iload 4, 2) := by decide +kernel
theorem dX6_between_65 : decode cX6_between 65 = .ok (.iload_n 3, 1) := by decide +kernel
theorem dX6_between_66 : decode cX6_between 66 = .ok (.isub, 1) := by decide +kernel
theorem dX6_between_67 : decode cX6_between 67 = .ok (.invokevirtual 101, 3) := by decide +kernel
theorem dX6_between_70 : decode cX6_between 70 = .ok (.ifCond .eq 14, 3) := by decide +kernel
theorem dX6_between_73 : decode cX6_between 73 = .ok (.aload_n 0, 1) := by decide +kernel
theorem dX6_between_74 : decode cX6_between 74 = .ok (.iconst 2, 1) := by decide +kernel
theorem dX6_between_75 : decode cX6_between 75 = .ok (.iload 5, 2) := by decide +kernel
theorem dX6_between_77 : decode cX6_between 77 = .ok (.iload 6, 2) := by decide +kernel
theorem dX6_between_79 : decode cX6_between 79 = .ok (.invokevirtual 105, 3) := by decide +kernel
theorem dX6_between_82 : decode cX6_between 82 = .ok (.iconst 0, 1) := by decide +kernel
theorem dX6_between_83 : decode cX6_between 83 = .ok (.ireturn, 1) := by decide +kernel
theorem dX6_between_84 : decode cX6_between 84 = .ok (.aload_n 0, 1) := by decide +kernel
theorem dX6_between_85 : decode cX6_between 85 = .ok (.iconst (-1), 1) := by decide +kernel
theorem dX6_between_86 : decode cX6_between 86 = .ok (.invokevirtual 97, 3) := by decide +kernel
theorem dX6_between_89 : decode cX6_between 89 = .ok (.aload_n 0, 1) := by decide +kernel
theorem dX6_between_90 : decode cX6_between 90 = .ok (.iconst 1, 1) := by decide +kernel
theorem dX6_between_91 : decode cX6_between 91 = .ok (.iload_n 3, 1) := by decide +kernel
theorem dX6_between_92 : decode cX6_between 92 = .ok (.iload 4, 2) := by decide +kernel
theorem dX6_between_94 : decode cX6_between 94 = .ok (.invokevirtual 105, 3) := by decide +kernel
theorem dX6_between_97 : decode cX6_between 97 = .ok (.aload_n 0, 1) := by decide +kernel
theorem dX6_between_98 : decode cX6_between 98 = .ok (.bipush (-2), 2) := by decide +kernel
theorem dX6_between_100 : decode cX6_between 100 = .ok (.invokevirtual 97, 3) := by decide +kernel
theorem dX6_between_103 : decode cX6_between 103 = .ok (.aload_n 0, 1) := by decide +kernel
theorem dX6_between_104 : decode cX6_between 104 = .ok (.iconst 2, 1) := by decide +kernel
theorem dX6_between_105 : decode cX6_between 105 = .ok (.iload 5, 2) := by decide +kernel
theorem dX6_between_107 : decode cX6_between 107 = .ok (.iload 6, 2) := by decide +kernel
theorem dX6_between_109 : decode cX6_between 109 = .ok (.invokevirtual 105, 3) := by decide +kernel
theorem dX6_between_112 : decode cX6_between 112 = .ok (.aload_n 0, 1) := by decide +kernel
theorem dX6_between_113 : decode cX6_between 113 = .ok (.bipush (-3), 2) := by decide +kernel
theorem dX6_between_115 : decode cX6_between 115 = .ok (.invokevirtual 97, 3) := by decide +kernel
theorem dX6_between_118 : decode cX6_between 118 = .ok (.iconst 1, 1) := by decide +kernel
theorem dX6_between_119 : decode cX6_between 119 = .ok (.ireturn, 1) := by decide +kernel
