theorem dX2_isCell_1 : decode cX2_isCell 1 = .ok (.iconst 0, 1) := by decide +kernel
theorem dX2_isCell_2 : decode cX2_isCell 2 = .ok (.bipush 11, 2) := by decide +kernel
theorem dX2_isCell_4 : decode cX2_isCell 4 = .ok (.invokestatic 38, 3) := by decide +kernel
theorem dX2_isCell_7 : decode cX2_isCell 7 = .ok (.ifCond .eq 17, 3) := by decide +kernel
theorem dX2_isCell_10 : decode cX2_isCell 10 = .ok (.iload_n 1, 1) := by decide +kernel
theorem dX2_isCell_11 : decode cX2_isCell 11 = .ok (.iconst 0, 1) := by decide +kernel
theorem dX2_isCell_12 : decode cX2_isCell 12 = .ok (.bipush 11, 2) := by decide +kernel
theorem dX2_isCell_14 : decode cX2_isCell 14 = .ok (.invokestatic 38, 3) := by decide +kernel
theorem dX2_isCell_17 : decode cX2_isCell 17 = .ok (.ifCond .eq 7, 3) := by decide +kernel
theorem dX2_isCell_20 : decode cX2_isCell 20 = .ok (.iconst 1, 1) := by decide +kernel
theorem dX2_isCell_21 : decode cX2_isCell 21 = .ok (.goto 4, 3) := by decide +kernel
theorem dX2_isCell_24 : decode cX2_isCell 24 = .ok (.iconst 0, 1) := by decide +kernel
theorem dX2_isCell_25 : decode cX2_isCell 25 = .ok (.ireturn, 1) := by decide +kernel
set_option maxRecDepth 20000 in
theorem ggX2_isLamp_X2_isIn : GoodIn wsX2_isLamp wsX2_isIn := goodIn_r _ [5] (by decide +kernel) (by decide +kernel)
set_option maxRecDepth 20000 in
theorem gX2_isLamp_X2_isIn : GoodIn wsX2_isLamp (va_wsS RX2 38 yX2_isIn wsX2_isIn) := goodIn_app (goodIn_of _ (by decide +kernel)) ggX2_isLamp_X2_isIn
theorem dX2_isLamp_0 : decode cX2_isLamp 0 = .ok (.iload_n 1, 1) := by decide +kernel
theorem dX2_isLamp_1 : decode cX2_isLamp 1 = .ok (.iconst 0, 1) := by decide +kernel
theorem dX2_isLamp_2 : decode cX2_isLamp 2 = .ok (.aload_n 0, 1) := by decide +kernel
theorem dX2_isLamp_3 : decode cX2_isLamp 3 = .ok (.getfield 42, 3) := by decide +kernel
theorem dX2_isLamp_6 : decode cX2_isLamp 6 = .ok (.iconst 1, 1) := by decide +kernel
theorem dX2_isLamp_7 : decode cX2_isLamp 7 = .ok (.isub, 1) := by decide +kernel
theorem dX2_isLamp_8 : decode cX2_isLamp 8 = .ok (.invokestatic 38, 3) := by decide +kernel
theorem dX2_isLamp_11 : decode cX2_isLamp 11 = .ok (.ireturn, 1) := by decide +kernel
set_option maxRecDepth 20000 in
theorem ggX2_isWatcher_X2_isIn : GoodIn wsX2_isWatcher wsX2_isIn := goodIn_r _ [5] (by decide +kernel) (by decide +kernel)
set_option maxRecDepth 20000 in
theorem gX2_isWatcher_X2_isIn : GoodIn wsX2_isWatcher (va_wsS RX2 38 yX2_isIn wsX2_isIn) := goodIn_app (goodIn_of _ (by decide +kernel)) ggX2_isWatcher_X2_isIn
theorem dX2_isWatcher_0 : decode cX2_isWatcher 0 = .ok (.iload_n 1, 1) := by decide +kernel
theorem dX2_isWatcher_1 : decode cX2_isWatcher 1 = .ok (.iconst 0, 1) := by decide +kernel
theorem dX2_isWatcher_2 : decode cX2_isWatcher 2 = .ok (.aload_n 0, 1) := by decide +kernel
theorem dX2_isWatcher_3 : decode cX2_isWatcher 3 = .ok (.getfield 45, 3) := by decide +kernel
theorem dX2_isWatcher_6 : decode cX2_isWatcher 6 = .ok (.iconst 1, 1) := by decide +kernel
theorem dX2_isWatcher_7 : decode cX2_isWatcher 7 = .ok (.isub, 1) := by decide +kernel
theorem dX2_isWatcher_8 : decode cX2_isWatcher 8 = .ok (.invokestatic 38, 3) := by decide +kernel
theorem dX2_isWatcher_11 : decode cX2_isWatcher 11 = .ok (.ireturn, 1) := by decide +kernel
theorem dX2_stopsAt_0 : decode cX2_stopsAt 0 = .ok (.aload_n 0, 1) := by decide +kernel
theorem dX2_stopsAt_1 : decode cX2_stopsAt 1 = .ok (.getfield 9, 3) := by decide +kernel
theorem dX2_stopsAt_4 : decode cX2_stopsAt 4 = .ok (.iload_n 1, 1) := by decide +kernel
theorem dX2_stopsAt_5 : decode cX2_stopsAt 5 = .ok (.iaload, 1) := by decide +kernel
theorem dX2_stopsAt_6 : decode cX2_stopsAt 6 = .ok (.iconst 1, 1) := by decide +kernel
theorem dX2_stopsAt_7 : decode cX2_stopsAt 7 = .ok (.if_icmp .ne 7, 3) := by decide +kernel
theorem dX2_stopsAt_10 : decode cX2_stopsAt 10 = .ok (.iconst 3, 1) := by decide +kernel
theorem dX2_stopsAt_11 : decode cX2_stopsAt 11 = .ok (.goto 18, 3) := by decide +kernel
theorem dX2_stopsAt_14 : decode cX2_stopsAt 14 = .ok (.aload_n 0, 1) := by decide +kernel
theorem dX2_stopsAt_15 : decode cX2_stopsAt 15 = .ok (.getfield 9, 3) := by decide +kernel
theorem dX2_stopsAt_18 : decode cX2_stopsAt 18 = .ok (.iload_n 1, 1) := by decide +kernel
theorem dX2_stopsAt_19 : decode cX2_stopsAt 19 = .ok (.iaload, 1) := by decide +kernel
theorem dX2_stopsAt_20 : decode cX2_stopsAt 20 = .ok (.iconst 2, 1) := by decide +kernel
theorem dX2_stopsAt_21 : decode cX2_stopsAt 21 = .ok (.if_icmp .ne 7, 3) := by decide +kernel
theorem dX2_stopsAt_24 : decode cX2_stopsAt 24 = .ok (.iconst 1, 1) := by decide +kernel
theorem dX2_stopsAt_25 : decode cX2_stopsAt 25 = .ok (.goto 4, 3) := by decide +kernel
theorem dX2_stopsAt_28 : decode cX2_stopsAt 28 = .ok (.iconst 0, 1) := by decide +kernel
theorem dX2_stopsAt_29 : decode cX2_stopsAt 29 = .ok (.ireturn, 1) := by decide +kernel
set_option maxRecDepth 20000 in
theorem ggX2_go_X2_stopsAt : GoodIn wsX2_go wsX2_stopsAt := goodIn_r _ [11, 12, 13, 14, 15, 16, 17, 18, 19, 20, 21, 22, 23, 24, 25, 26] (by decide +kernel) (by decide +kernel)
set_option maxRecDepth 20000 in
theorem gX2_go_X2_stopsAt : GoodIn wsX2_go (wsV RX2 60 RX2 yX2_stopsAt wsX2_stopsAt) := goodIn_app (goodIn_of _ (by decide +kernel)) ggX2_go_X2_stopsAt
theorem dX2_go_0 : decode cX2_go 0 = .ok (.iload_n 2, 1) := by decide +kernel
theorem dX2_go_1 : decode cX2_go 1 = .ok (.bipush 12, 2) := by decide +kernel
theorem dX2_go_3 : decode cX2_go 3 = .ok (.irem, 1) := by decide +kernel
theorem dX2_go_4 : decode cX2_go 4 = .ok (.iload_n 1, 1) := by decide +kernel
theorem dX2_go_5 : decode cX2_go 5 = .ok (.bipush 12, 2) := by decide +kernel
theorem dX2_go_7 : decode cX2_go 7 = .ok (.irem, 1) := by decide +kernel
theorem dX2_go_8 : decode cX2_go 8 = .ok (.isub, 1) := by decide +kernel
theorem dX2_go_9 : decode cX2_go 9 = .ok (.invokestatic 48, 3) := by decide +kernel
theorem dX2_go_12 : decode cX2_go 12 = .ok (.istore_n 3, 1) := by decide +kernel
theorem dX2_go_13 : decode cX2_go 13 = .ok (.iload_n 2, 1) := by decide +kernel
theorem dX2_go_14 : decode cX2_go 14 = .ok (.bipush 12, 2) := by decide +kernel
theorem dX2_go_16 : decode cX2_go 16 = .ok (.idiv, 1) := by decide +kernel
theorem dX2_go_17 : decode cX2_go 17 = .ok (.iload_n 1, 1) := by decide +kernel
theorem dX2_go_18 : decode cX2_go 18 = .ok (.bipush 12, 2) := by decide +kernel
theorem dX2_go_20 : decode cX2_go 20 = .ok (.idiv, 1) := by decide +kernel
theorem dX2_go_21 : decode cX2_go 21 = .ok (.isub, 1) := by decide +kernel
theorem dX2_go_22 : decode cX2_go 22 = .ok (.invokestatic 48, 3) := by decide +kernel
theorem dX2_go_25 : decode cX2_go 25 = .ok (.istore 4, 2) := by decide +kernel
theorem dX2_go_27 : decode cX2_go 27 = .ok (.iload_n 2, 1) := by decide +kernel
theorem dX2_go_28 : decode cX2_go 28 = .ok (.bipush 12, 2) := by decide +kernel
theorem dX2_go_30 : decode cX2_go 30 = .ok (.irem, 1) := by decide +kernel
theorem dX2_go_31 : decode cX2_go 31 = .ok (.iload_n 1, 1) := by decide +kernel
theorem dX2_go_32 : decode cX2_go 32 = .ok (.bipush 12, 2) := by decide +kernel
theorem dX2_go_34 : decode cX2_go 34 = .ok (.irem, 1) := by decide +kernel
theorem dX2_go_35 : decode cX2_go 35 = .ok (.if_icmp .ge 7, 3) := by decide +kernel
theorem dX2_go_38 : decode cX2_go 38 = .ok (.iconst (-1), 1) := by decide +kernel
theorem dX2_go_39 : decode cX2_go 39 = .ok (.goto 4, 3) := by decide +kernel
theorem dX2_go_42 : decode cX2_go 42 = .ok (.iconst 1, 1) := by decide +kernel
theorem dX2_go_43 : decode cX2_go 43 = .ok (.istore 5, 2) := by decide +kernel
theorem dX2_go_45 : decode cX2_go 45 = .ok (.iload_n 2, 1) := by decide +kernel
theorem dX2_go_46 : decode cX2_go 46 = .ok (.bipush 12, 2) := by decide +kernel
theorem dX2_go_48 : decode cX2_go 48 = .ok (.idiv, 1) := by decide +kernel
theorem dX2_go_49 : decode cX2_go 49 = .ok (.iload_n 1, 1) := by decide +kernel
theorem dX2_go_50 : decode cX2_go 50 = .ok (.bipush 12, 2) := by decide +kernel
theorem dX2_go_52 : decode cX2_go 52 = .ok (.idiv, 1) := by decide +kernel
theorem dX2_go_53 : decode cX2_go 53 = .ok (.if_icmp .ge 8, 3) := by decide +kernel
theorem dX2_go_56 : decode cX2_go 56 = .ok (.bipush (-12), 2) := by decide +kernel
theorem dX2_go_58 : decode cX2_go 58 = .ok (.goto 5, 3) := by decide +kernel
theorem dX2_go_61 : decode cX2_go 61 = .ok (.bipush 12, 2) := by decide +kernel
theorem dX2_go_63 : decode cX2_go 63 = .ok (.istore 6, 2) := by decide +kernel
theorem dX2_go_65 : decode cX2_go 65 = .ok (.iconst 0, 1) := by decide +kernel
theorem dX2_go_66 : decode cX2_go 66 = .ok (.istore 7, 2) := by decide +kernel
theorem dX2_go_68 : decode cX2_go 68 = .ok (.iconst 0, 1) := by decide +kernel
theorem dX2_go_69 : decode cX2_go 69 = .ok (.istore 8, 2) := by decide +kernel
theorem dX2_go_71 : decode cX2_go 71 = .ok (.iload_n 1, 1) := by decide +kernel
theorem dX2_go_72 : decode cX2_go 72 = .ok (.istore 9, 2) := by decide +kernel
theorem dX2_go_74 : decode cX2_go 74 = .ok (.aload_n 0, 1) := by decide +kernel
theorem dX2_go_75 : decode cX2_go 75 = .ok (.iconst 0, 1) := by decide +kernel
theorem dX2_go_76 : decode cX2_go 76 = .ok (.putfield 54, 3) := by decide +kernel
theorem dX2_go_79 : decode cX2_go 79 = .ok (.aload_n 0, 1) := by decide +kernel
theorem dX2_go_80 : decode cX2_go 80 = .ok (.iconst 0, 1) := by decide +kernel
theorem dX2_go_81 : decode cX2_go 81 = .ok (.putfield 57, 3) := by decide +kernel
theorem dX2_go_84 : decode cX2_go 84 = .ok (.iload 7, 2) := by decide +kernel
theorem dX2_go_86 : decode cX2_go 86 = .ok (.iload_n 3, 1) := by decide +kernel
theorem dX2_go_87 : decode cX2_go 87 = .ok (.if_icmp .lt 10, 3) := by decide +kernel
theorem dX2_go_90 : decode cX2_go 90 = .ok (.iload 8, 2) := by decide +kernel
theorem dX2_go_92 : decode cX2_go 92 = .ok (.iload 4, 2) := by decide +kernel
theorem dX2_go_94 : decode cX2_go 94 = .ok (.if_icmp .ge 127, 3) := by decide +kernel
theorem dX2_go_97 : decode cX2_go 97 = .ok (.iconst 1, 1) := by decide +kernel
theorem dX2_go_98 : decode cX2_go 98 = .ok (.iconst 2, 1) := by decide +kernel
theorem dX2_go_99 : decode cX2_go 99 = .ok (.iload 7, 2) := by decide +kernel
theorem dX2_go_101 : decode cX2_go 101 = .ok (.imul, 1) := by decide +kernel
theorem dX2_go_102 : decode cX2_go 102 = .ok (.iadd, 1) := by decide +kernel
theorem dX2_go_103 : decode cX2_go 103 = .ok (.iload 4, 2) := by decide +kernel
theorem dX2_go_105 : decode cX2_go 105 = .ok (.imul, 1) := by decide +kernel
theorem dX2_go_106 : decode cX2_go 106 = .ok (.istore 10, 2) := by decide +kernel
theorem dX2_go_108 : decode cX2_go 108 = .ok (.iconst 1, 1) := by decide +kernel
theorem dX2_go_109 : decode cX2_go 109 = .ok (.iconst 2, 1) := by decide +kernel
theorem dX2_go_110 : decode cX2_go 110 = .ok (.iload 8, 2) := by decide +kernel
theorem dX2_go_112 : decode cX2_go 112 = .ok (.imul, 1) := by decide +kernel
theorem dX2_go_113 : decode cX2_go 113 = .ok (.iadd, 1) := by decide +kernel
theorem dX2_go_114 : decode cX2_go 114 = .ok (.iload_n 3, 1) := by decide +kernel
theorem dX2_go_115 : decode cX2_go 115 = .ok (.imul, 1) := by decide +kernel
theorem dX2_go_116 : decode cX2_go 116 = .ok (.istore 11, 2) := by decide +kernel
theorem dX2_go_118 : decode cX2_go 118 = .ok (.iload 10, 2) := by decide +kernel
theorem dX2_go_120 : decode cX2_go 120 = .ok (.iload 11, 2) := by decide +kernel
theorem dX2_go_122 : decode cX2_go 122 = .ok (.if_icmp .ne 31, 3) := by decide +kernel
theorem dX2_go_125 : decode cX2_go 125 = .ok (.aload_n 0, 1) := by decide +kernel
theorem dX2_go_126 : decode cX2_go 126 = .ok (.dup, 1) := by decide +kernel
theorem dX2_go_127 : decode cX2_go 127 = .ok (.getfield 54, 3) := by decide +kernel
theorem dX2_go_130 : decode cX2_go 130 = .ok (.aload_n 0, 1) := by decide +kernel
theorem dX2_go_131 : decode cX2_go 131 = .ok (.iload 9, 2) := by decide +kernel
theorem dX2_go_133 : decode cX2_go 133 = .ok (.iload 5, 2) := by decide +kernel
theorem dX2_go_135 : decode cX2_go 135 = .ok (.iadd, 1) := by decide +kernel
theorem dX2_go_136 : decode cX2_go 136 = .ok (.invokevirtual 60, 3) := by decide +kernel
theorem dX2_go_139 : decode cX2_go 139 = .ok (.aload_n 0, 1) := by decide +kernel
theorem dX2_go_140 : decode cX2_go 140 = .ok (.iload 9, 2) := by decide +kernel
theorem dX2_go_142 : decode cX2_go 142 = .ok (.iload 6, 2) := by decide +kernel
theorem dX2_go_144 : decode cX2_go 144 = .ok (.iadd, 1) := by decide +kernel
theorem dX2_go_145 : decode cX2_go 145 = .ok (.invokevirtual 60, 3) := by decide +kernel
theorem dX2_go_148 : decode cX2_go 148 = .ok (.iand, 1) := by decide +kernel
theorem dX2_go_149 : decode cX2_go 149 = .ok (.ior, 1) := by decide +kernel
theorem dX2_go_150 : decode cX2_go 150 = .ok (.putfield 54, 3) := by decide +kernel
theorem dX2_go_153 : decode cX2_go 153 = .ok (.iload 10, 2) := by decide +kernel
theorem dX2_go_155 : decode cX2_go 155 = .ok (.iload 11, 2) := by decide +kernel
theorem dX2_go_157 : decode cX2_go 157 = .ok (.if_icmp .gt 13, 3) := by decide +kernel
theorem dX2_go_160 : decode cX2_go 160 = .ok (.iload 9, 2) := by decide +kernel
theorem dX2_go_162 : decode cX2_go 162 = .ok (.iload 5, 2) := by decide +kernel
theorem dX2_go_164 : decode cX2_go 164 = .ok (.iadd, 1) := by decide +kernel
theorem dX2_go_165 : decode cX2_go 165 = .ok (.istore 9, 2) := by decide +kernel
theorem dX2_go_167 : decode cX2_go 167 = .ok (.iinc 7 1, 3) := by decide +kernel
theorem dX2_go_170 : decode cX2_go 170 = .ok (.iload 10, 2) := by decide +kernel
theorem dX2_go_172 : decode cX2_go 172 = .ok (.iload 11, 2) := by decide +kernel
theorem dX2_go_174 : decode cX2_go 174 = .ok (.if_icmp .lt 13, 3) := by decide +kernel
theorem dX2_go_177 : decode cX2_go 177 = .ok (.iload 9, 2) := by decide +kernel
theorem dX2_go_179 : decode cX2_go 179 = .ok (.iload 6, 2) := by decide +kernel
theorem dX2_go_181 : decode cX2_go 181 = .ok (.iadd, 1) := by decide +kernel
theorem dX2_go_182 : decode cX2_go 182 = .ok (.istore 9, 2) := by decide +kernel
theorem dX2_go_184 : decode cX2_go 184 = .ok (.iinc 8 1, 3) := by decide +kernel
theorem dX2_go_187 : decode cX2_go 187 = .ok (.aload_n 0, 1) := by decide +kernel
theorem dX2_go_188 : decode cX2_go 188 = .ok (.dup, 1) := by decide +kernel
theorem dX2_go_189 : decode cX2_go 189 = .ok (.getfield 57, 3) := by decide +kernel
theorem dX2_go_192 : decode cX2_go 192 = .ok (.iconst 1, 1) := by decide +kernel
theorem dX2_go_193 : decode cX2_go 193 = .ok (.iadd, 1) := by decide +kernel
theorem dX2_go_194 : decode cX2_go 194 = .ok (.putfield 57, 3) := by decide +kernel
theorem dX2_go_197 : decode cX2_go 197 = .ok (.iload 9, 2) := by decide +kernel
theorem dX2_go_199 : decode cX2_go 199 = .ok (.iload_n 2, 1) := by decide +kernel
theorem dX2_go_200 : decode cX2_go 200 = .ok (.if_icmp .eq 18, 3) := by decide +kernel
theorem dX2_go_203 : decode cX2_go 203 = .ok (.aload_n 0, 1) := by decide +kernel
theorem dX2_go_204 : decode cX2_go 204 = .ok (.dup, 1) := by decide +kernel
theorem dX2_go_205 : decode cX2_go 205 = .ok (.getfield 54, 3) := by decide +kernel
theorem dX2_go_208 : decode cX2_go 208 = .ok (.aload_n 0, 1) := by decide +kernel
theorem dX2_go_209 : decode cX2_go 209 = .ok (.iload 9, 2) := by decide +kernel
theorem dX2_go_211 : decode cX2_go 211 = .ok (.invokevirtual 60, 3) := by decide +kernel
theorem dX2_go_214 : decode cX2_go 214 = .ok (.ior, 1) := by decide +kernel
theorem dX2_go_215 : decode cX2_go 215 = .ok (.putfield 54, 3) := by decide +kernel
theorem dX2_go_218 : decode cX2_go 218 = .ok (.goto (-134), 3) := by decide +kernel
theorem dX2_go_221 : decode cX2_go 221 = .ok (.return_, 1) := by decide +kernel
set_option maxRecDepth 20000 in
theorem ggX2_stopsOn_X2_go : GoodIn wsX2_stopsOn wsX2_go := goodIn_r _ [6, 7, 8, 9, 10, 1, 11, 12, 13, 14, 5, 15, 16, 17, 18, 19, 20, 21, 22, 23, 24, 25, 26, 27, 28, 29, 30] (by decide +kernel) (by decide +kernel)
set_option maxRecDepth 20000 in
theorem gX2_stopsOn_X2_go : GoodIn wsX2_stopsOn (wsV RX2 63 RX2 yX2_go wsX2_go) := goodIn_app (goodIn_of _ (by decide +kernel)) ggX2_stopsOn_X2_go
theorem dX2_stopsOn_0 : decode cX2_stopsOn 0 = .ok (.aload_n 0, 1) := by decide +kernel
theorem dX2_stopsOn_1 : decode cX2_stopsOn 1 = .ok (.iload_n 1, 1) := by decide +kernel
theorem dX2_stopsOn_2 : decode cX2_stopsOn 2 = .ok (.iload_n 2, 1) := by decide +kernel
theorem dX2_stopsOn_3 : decode cX2_stopsOn 3 = .ok (.invokevirtual 63, 3) := by decide +kernel
theorem dX2_stopsOn_6 : decode cX2_stopsOn 6 = .ok (.aload_n 0, 1) := by decide +kernel
theorem dX2_stopsOn_7 : decode cX2_stopsOn 7 = .ok (.getfield 54, 3) := by decide +kernel
theorem dX2_stopsOn_10 : decode cX2_stopsOn 10 = .ok (.ireturn, 1) := by decide +kernel
theorem dX2_apartX_0 : decode cX2_apartX 0 = .ok (.iload_n 0, 1) := by decide +kernel
theorem dX2_apartX_1 : decode cX2_apartX 1 = .ok (.bipush 12, 2) := by decide +kernel
theorem dX2_apartX_3 : decode cX2_apartX 3 = .ok (.irem, 1) := by decide +kernel
theorem dX2_apartX_4 : decode cX2_apartX 4 = .ok (.iload_n 1, 1) := by decide +kernel
theorem dX2_apartX_5 : decode cX2_apartX 5 = .ok (.bipush 12, 2) := by decide +kernel
theorem dX2_apartX_7 : decode cX2_apartX 7 = .ok (.irem, 1) := by decide +kernel
theorem dX2_apartX_8 : decode cX2_apartX 8 = .ok (.isub, 1) := by decide +kernel
theorem dX2_apartX_9 : decode cX2_apartX 9 = .ok (.invokestatic 48, 3) := by decide +kernel
theorem dX2_apartX_12 : decode cX2_apartX 12 = .ok (.ireturn, 1) := by decide +kernel
theorem dX2_apartY_0 : decode cX2_apartY 0 = .ok (.iload_n 0, 1) := by decide +kernel
theorem dX2_apartY_1 : decode cX2_apartY 1 = .ok (.bipush 12, 2) := by decide +kernel
theorem dX2_apartY_3 : decode cX2_apartY 3 = .ok (.idiv, 1) := by decide +kernel
theorem dX2_apartY_4 : decode cX2_apartY 4 = .ok (.iload_n 1, 1) := by decide +kernel
theorem dX2_apartY_5 : decode cX2_apartY 5 = .ok (.bipush 12, 2) := by decide +kernel
theorem dX2_apartY_7 : decode cX2_apartY 7 = .ok (.idiv, 1) := by decide +kernel
theorem dX2_apartY_8 : decode cX2_apartY 8 = .ok (.isub, 1) := by decide +kernel
theorem dX2_apartY_9 : decode cX2_apartY 9 = .ok (.invokestatic 48, 3) := by decide +kernel
theorem dX2_apartY_12 : decode cX2_apartY 12 = .ok (.ireturn, 1) := by decide +kernel
set_option maxRecDepth 20000 in
theorem ggX2_isLitBy_X2_apartX : GoodIn wsX2_isLitBy wsX2_apartX := goodIn_r _ [6, 7, 8, 9, 10] (by decide +kernel) (by decide +kernel)
set_option maxRecDepth 20000 in
theorem gX2_isLitBy_X2_apartX : GoodIn wsX2_isLitBy (va_wsS RX2 67 yX2_apartX wsX2_apartX) := goodIn_app (goodIn_of _ (by decide +kernel)) ggX2_isLitBy_X2_apartX
set_option maxRecDepth 20000 in
theorem ggX2_isLitBy_X2_apartY : GoodIn wsX2_isLitBy wsX2_apartY := goodIn_r _ [13, 7, 8, 9, 10] (by decide +kernel) (by decide +kernel)
set_option maxRecDepth 20000 in
theorem gX2_isLitBy_X2_apartY : GoodIn wsX2_isLitBy (va_wsS RX2 71 yX2_apartY wsX2_apartY) := goodIn_app (goodIn_of _ (by decide +kernel)) ggX2_isLitBy_X2_apartY
set_option maxRecDepth 20000 in
theorem ggX2_isLitBy_X2_stopsOn : GoodIn wsX2_isLitBy wsX2_stopsOn := goodIn_r _ [17, 18, 19, 20, 21, 5, 22, 7, 8, 9, 10, 23, 24, 25, 26, 27, 28, 29, 30, 31, 32, 33, 34, 35, 36, 37, 38, 39, 40, 41, 42] (by decide +kernel) (by decide +kernel)
set_option maxRecDepth 20000 in
theorem gX2_isLitBy_X2_stopsOn : GoodIn wsX2_isLitBy (wsV RX2 74 RX2 yX2_stopsOn wsX2_stopsOn) := goodIn_app (goodIn_of _ (by decide +kernel)) ggX2_isLitBy_X2_stopsOn
theorem dX2_isLitBy_0 : decode cX2_isLitBy 0 = .ok (.aload_n 0, 1) := by decide +kernel
theorem dX2_isLitBy_1 : decode cX2_isLitBy 1 = .ok (.getfield 13, 3) := by decide +kernel
theorem dX2_isLitBy_4 : decode cX2_isLitBy 4 = .ok (.iload_n 1, 1) := by decide +kernel
theorem dX2_isLitBy_5 : decode cX2_isLitBy 5 = .ok (.iaload, 1) := by decide +kernel
theorem dX2_isLitBy_6 : decode cX2_isLitBy 6 = .ok (.iload_n 2, 1) := by decide +kernel
theorem dX2_isLitBy_7 : decode cX2_isLitBy 7 = .ok (.invokestatic 67, 3) := by decide +kernel
theorem dX2_isLitBy_10 : decode cX2_isLitBy 10 = .ok (.istore_n 3, 1) := by decide +kernel
theorem dX2_isLitBy_11 : decode cX2_isLitBy 11 = .ok (.aload_n 0, 1) := by decide +kernel
theorem dX2_isLitBy_12 : decode cX2_isLitBy 12 = .ok (.getfield 13, 3) := by decide +kernel
theorem dX2_isLitBy_15 : decode cX2_isLitBy 15 = .ok (.iload_n 1, 1) := by decide +kernel
theorem dX2_isLitBy_16 : decode cX2_isLitBy 16 = .ok (.iaload, 1) := by decide +kernel
theorem dX2_isLitBy_17 : decode cX2_isLitBy 17 = .ok (.iload_n 2, 1) := by decide +kernel
theorem dX2_isLitBy_18 : decode cX2_isLitBy 18 = .ok (.invokestatic 71, 3) := by decide +kernel
theorem dX2_isLitBy_21 : decode cX2_isLitBy 21 = .ok (.istore 4, 2) := by decide +kernel
theorem dX2_isLitBy_23 : decode cX2_isLitBy 23 = .ok (.iload_n 3, 1) := by decide +kernel
theorem dX2_isLitBy_24 : decode cX2_isLitBy 24 = .ok (.iload_n 3, 1) := by decide +kernel
theorem dX2_isLitBy_25 : decode cX2_isLitBy 25 = .ok (.imul, 1) := by decide +kernel
theorem dX2_isLitBy_26 : decode cX2_isLitBy 26 = .ok (.iload 4, 2) := by decide +kernel
theorem dX2_isLitBy_28 : decode cX2_isLitBy 28 = .ok (.iload 4, 2) := by decide +kernel
theorem dX2_isLitBy_30 : decode cX2_isLitBy 30 = .ok (.imul, 1) := by decide +kernel
theorem dX2_isLitBy_31 : decode cX2_isLitBy 31 = .ok (.iadd, 1) := by decide +kernel
theorem dX2_isLitBy_32 : decode cX2_isLitBy 32 = .ok (.aload_n 0, 1) := by decide +kernel
theorem dX2_isLitBy_33 : decode cX2_isLitBy 33 = .ok (.getfield 16, 3) := by decide +kernel
theorem dX2_isLitBy_36 : decode cX2_isLitBy 36 = .ok (.iload_n 1, 1) := by decide +kernel
theorem dX2_isLitBy_37 : decode cX2_isLitBy 37 = .ok (.iaload, 1) := by decide +kernel
theorem dX2_isLitBy_38 : decode cX2_isLitBy 38 = .ok (.aload_n 0, 1) := by decide +kernel
theorem dX2_isLitBy_39 : decode cX2_isLitBy 39 = .ok (.getfield 16, 3) := by decide +kernel
theorem dX2_isLitBy_42 : decode cX2_isLitBy 42 = .ok (.iload_n 1, 1) := by decide +kernel
theorem dX2_isLitBy_43 : decode cX2_isLitBy 43 = .ok (.iaload, 1) := by decide +kernel
theorem dX2_isLitBy_44 : decode cX2_isLitBy 44 = .ok (.imul, 1) := by decide +kernel
theorem dX2_isLitBy_45 : decode cX2_isLitBy 45 = .ok (.if_icmp .gt 23, 3) := by decide +kernel
theorem dX2_isLitBy_48 : decode cX2_isLitBy 48 = .ok (.aload_n 0, 1) := by decide +kernel
theorem dX2_isLitBy_49 : decode cX2_isLitBy 49 = .ok (.aload_n 0, 1) := by decide +kernel
theorem dX2_isLitBy_50 : decode cX2_isLitBy 50 = .ok (.getfield 13, 3) := by decide +kernel
theorem dX2_isLitBy_53 : decode cX2_isLitBy 53 = .ok (.iload_n 1, 1) := by decide +kernel
theorem dX2_isLitBy_54 : decode cX2_isLitBy 54 = .ok (.iaload, 1) := by decide +kernel
theorem dX2_isLitBy_55 : decode cX2_isLitBy 55 = .ok (.iload_n 2, 1) := by decide +kernel
theorem dX2_isLitBy_56 : decode cX2_isLitBy 56 = .ok (.invokevirtual 74, 3) := by decide +kernel
theorem dX2_isLitBy_59 : decode cX2_isLitBy 59 = .ok (.iconst 1, 1) := by decide +kernel
theorem dX2_isLitBy_60 : decode cX2_isLitBy 60 = .ok (.iand, 1) := by decide +kernel
theorem dX2_isLitBy_61 : decode cX2_isLitBy 61 = .ok (.ifCond .ne 7, 3) := by decide +kernel
theorem dX2_isLitBy_64 : decode cX2_isLitBy 64 = .ok (.iconst 1, 1) := by decide +kernel
theorem dX2_isLitBy_65 : decode cX2_isLitBy 65 = .ok (.goto 4, 3) := by decide +kernel
theorem dX2_isLitBy_68 : decode cX2_isLitBy 68 = .ok (.iconst 0, 1) := by decide +kernel
theorem dX2_isLitBy_69 : decode cX2_isLitBy 69 = .ok (.ireturn, 1) := by decide +kernel
set_option maxRecDepth 20000 in
theorem ggX2_look_X2_isLitBy : GoodIn wsX2_look wsX2_isLitBy := goodIn_r _ [14, 5, 4, 15, 16, 13, 17, 18, 19, 8, 20, 21, 22, 23, 24, 25, 26, 27, 28, 29, 30, 31, 32, 33, 34, 35, 36, 37, 38, 39, 40, 41, 42, 43, 44, 45, 46, 47, 48, 49, 50, 51, 52] (by decide +kernel) (by decide +kernel)
set_option maxRecDepth 20000 in
theorem gX2_look_X2_isLitBy : GoodIn wsX2_look (wsV RX2 77 RX2 yX2_isLitBy wsX2_isLitBy) := goodIn_app (goodIn_of _ (by decide +kernel)) ggX2_look_X2_isLitBy
set_option maxRecDepth 20000 in
theorem ggX2_look_X2_apartX : GoodIn wsX2_look wsX2_apartX := goodIn_r _ [17, 18, 19, 8, 20] (by decide +kernel) (by decide +kernel)
set_option maxRecDepth 20000 in
theorem gX2_look_X2_apartX : GoodIn wsX2_look (va_wsS RX2 67 yX2_apartX wsX2_apartX) := goodIn_app (goodIn_of _ (by decide +kernel)) ggX2_look_X2_apartX
set_option maxRecDepth 20000 in
theorem ggX2_look_X2_apartY : GoodIn wsX2_look wsX2_apartY := goodIn_r _ [23, 18, 19, 8, 20] (by decide +kernel) (by decide +kernel)
set_option maxRecDepth 20000 in
theorem gX2_look_X2_apartY : GoodIn wsX2_look (va_wsS RX2 71 yX2_apartY wsX2_apartY) := goodIn_app (goodIn_of _ (by decide +kernel)) ggX2_look_X2_apartY
theorem dX2_look_0 : decode cX2_look 0 = .ok (.iconst 0, 1) := by decide +kernel
theorem dX2_look_1 : decode cX2_look 1 = .ok (.istore_n 1, 1) := by decide +kernel
theorem dX2_look_2 : decode cX2_look 2 = .ok (.iconst 0, 1) := by decide +kernel
theorem dX2_look_3 : decode cX2_look 3 = .ok (.istore_n 2, 1) := by decide +kernel
theorem dX2_look_4 : decode cX2_look 4 = .ok (.iload_n 2, 1) := by decide +kernel
theorem dX2_look_5 : decode cX2_look 5 = .ok (.sipush 144, 3) := by decide +kernel
theorem dX2_look_8 : decode cX2_look 8 = .ok (.if_icmp .ge 117, 3) := by decide +kernel
theorem dX2_look_11 : decode cX2_look 11 = .ok (.aload_n 0, 1) := by decide +kernel
theorem dX2_look_12 : decode cX2_look 12 = .ok (.getfield 22, 3) := by decide +kernel
theorem dX2_look_15 : decode cX2_look 15 = .ok (.iload_n 2, 1) := by decide +kernel
theorem dX2_look_16 : decode cX2_look 16 = .ok (.iconst 0, 1) := by decide +kernel
theorem dX2_look_17 : decode cX2_look 17 = .ok (.iastore, 1) := by decide +kernel
theorem dX2_look_18 : decode cX2_look 18 = .ok (.aload_n 0, 1) := by decide +kernel
theorem dX2_look_19 : decode cX2_look 19 = .ok (.getfield 25, 3) := by decide +kernel
theorem dX2_look_22 : decode cX2_look 22 = .ok (.iload_n 2, 1) := by decide +kernel
theorem dX2_look_23 : decode cX2_look 23 = .ok (.iconst 0, 1) := by decide +kernel
theorem dX2_look_24 : decode cX2_look 24 = .ok (.iastore, 1) := by decide +kernel
theorem dX2_look_25 : decode cX2_look 25 = .ok (.iconst 0, 1) := by decide +kernel
theorem dX2_look_26 : decode cX2_look 26 = .ok (.istore_n 3, 1) := by decide +kernel
theorem dX2_look_27 : decode cX2_look 27 = .ok (.iload_n 3, 1) := by decide +kernel
theorem dX2_look_28 : decode cX2_look 28 = .ok (.aload_n 0, 1) := by decide +kernel
theorem dX2_look_29 : decode cX2_look 29 = .ok (.getfield 42, 3) := by decide +kernel
theorem dX2_look_32 : decode cX2_look 32 = .ok (.if_icmp .ge 70, 3) := by decide +kernel
theorem dX2_look_35 : decode cX2_look 35 = .ok (.aload_n 0, 1) := by decide +kernel
theorem dX2_look_36 : decode cX2_look 36 = .ok (.iload_n 3, 1) := by decide +kernel
theorem dX2_look_37 : decode cX2_look 37 = .ok (.iload_n 2, 1) := by decide +kernel
theorem dX2_look_38 : decode cX2_look 38 = .ok (.invokevirtual 77, 3) := by decide +kernel
theorem dX2_look_41 : decode cX2_look 41 = .ok (.ifCond .ne 6, 3) := by decide +kernel
theorem dX2_look_44 : decode cX2_look 44 = .ok (.goto 52, 3) := by decide +kernel
theorem dX2_look_47 : decode cX2_look 47 = .ok (.aload_n 0, 1) := by decide +kernel
theorem dX2_look_48 : decode cX2_look 48 = .ok (.getfield 22, 3) := by decide +kernel
theorem dX2_look_51 : decode cX2_look 51 = .ok (.iload_n 2, 1) := by decide +kernel
theorem dX2_look_52 : decode cX2_look 52 = .ok (.dup2, 1) := by decide +kernel
theorem dX2_look_53 : decode cX2_look 53 = .ok (.iaload, 1) := by decide +kernel
theorem dX2_look_54 : decode cX2_look 54 = .ok (.iconst 1, 1) := by decide +kernel
theorem dX2_look_55 : decode cX2_look 55 = .ok (.iadd, 1) := by decide +kernel
theorem dX2_look_56 : decode cX2_look 56 = .ok (.iastore, 1) := by decide +kernel
theorem dX2_look_57 : decode cX2_look 57 = .ok (.aload_n 0, 1) := by decide +kernel
theorem dX2_look_58 : decode cX2_look 58 = .ok (.getfield 25, 3) := by decide +kernel
theorem dX2_look_61 : decode cX2_look 61 = .ok (.iload_n 2, 1) := by decide +kernel
theorem dX2_look_62 : decode cX2_look 62 = .ok (.dup2, 1) := by decide +kernel
theorem dX2_look_63 : decode cX2_look 63 = .ok (.iaload, 1) := by decide +kernel
theorem dX2_look_64 : decode cX2_look 64 = .ok (.aload_n 0, 1) := by decide +kernel
theorem dX2_look_65 : decode cX2_look 65 = .ok (.getfield 16, 3) := by decide +kernel
theorem dX2_look_68 : decode cX2_look 68 = .ok (.iload_n 3, 1) := by decide +kernel
theorem dX2_look_69 : decode cX2_look 69 = .ok (.iaload, 1) := by decide +kernel
theorem dX2_look_70 : decode cX2_look 70 = .ok (.aload_n 0, 1) := by decide +kernel
theorem dX2_look_71 : decode cX2_look 71 = .ok (.getfield 13, 3) := by decide +kernel
theorem dX2_look_74 : decode cX2_look 74 = .ok (.iload_n 3, 1) := by decide +kernel
theorem dX2_look_75 : decode cX2_look 75 = .ok (.iaload, 1) := by decide +kernel
theorem dX2_look_76 : decode cX2_look 76 = .ok (.iload_n 2, 1) := by decide +kernel
theorem dX2_look_77 : decode cX2_look 77 = .ok (.invokestatic 67, 3) := by decide +kernel
theorem dX2_look_80 : decode cX2_look 80 = .ok (.aload_n 0, 1) := by decide +kernel
theorem dX2_look_81 : decode cX2_look 81 = .ok (.getfield 13, 3) := by decide +kernel
theorem dX2_look_84 : decode cX2_look 84 = .ok (.iload_n 3, 1) := by decide +kernel
theorem dX2_look_85 : decode cX2_look 85 = .ok (.iaload, 1) := by decide +kernel
theorem dX2_look_86 : decode cX2_look 86 = .ok (.iload_n 2, 1) := by decide +kernel
theorem dX2_look_87 : decode cX2_look 87 = .ok (.invokestatic 71, 3) := by decide +kernel
theorem dX2_look_90 : decode cX2_look 90 = .ok (.invokestatic 81, 3) := by decide +kernel
theorem dX2_look_93 : decode cX2_look 93 = .ok (.isub, 1) := by decide +kernel
theorem dX2_look_94 : decode cX2_look 94 = .ok (.iadd, 1) := by decide +kernel
theorem dX2_look_95 : decode cX2_look 95 = .ok (.iastore, 1) := by decide +kernel
theorem dX2_look_96 : decode cX2_look 96 = .ok (.iinc 3 1, 3) := by decide +kernel
theorem dX2_look_99 : decode cX2_look 99 = .ok (.goto (-72), 3) := by decide +kernel
theorem dX2_look_102 : decode cX2_look 102 = .ok (.iload_n 1, 1) := by decide +kernel
theorem dX2_look_103 : decode cX2_look 103 = .ok (.aload_n 0, 1) := by decide +kernel
theorem dX2_look_104 : decode cX2_look 104 = .ok (.getfield 22, 3) := by decide +kernel
theorem dX2_look_107 : decode cX2_look 107 = .ok (.iload_n 2, 1) := by decide +kernel
theorem dX2_look_108 : decode cX2_look 108 = .ok (.iaload, 1) := by decide +kernel
theorem dX2_look_109 : decode cX2_look 109 = .ok (.ifCond .le 7, 3) := by decide +kernel
theorem dX2_look_112 : decode cX2_look 112 = .ok (.iconst 1, 1) := by decide +kernel
theorem dX2_look_113 : decode cX2_look 113 = .ok (.goto 4, 3) := by decide +kernel
theorem dX2_look_116 : decode cX2_look 116 = .ok (.iconst 0, 1) := by decide +kernel
theorem dX2_look_117 : decode cX2_look 117 = .ok (.iadd, 1) := by decide +kernel
theorem dX2_look_118 : decode cX2_look 118 = .ok (.istore_n 1, 1) := by decide +kernel
theorem dX2_look_119 : decode cX2_look 119 = .ok (.iinc 2 1, 3) := by decide +kernel
theorem dX2_look_122 : decode cX2_look 122 = .ok (.goto (-118), 3) := by decide +kernel
theorem dX2_look_125 : decode cX2_look 125 = .ok (.iload_n 1, 1) := by decide +kernel
theorem dX2_look_126 : decode cX2_look 126 = .ok (.ireturn, 1) := by decide +kernel
set_option maxRecDepth 20000 in
theorem ggX2_seesCell_X2_stopsOn : GoodIn wsX2_seesCell wsX2_stopsOn := goodIn_r _ [7, 8, 9, 10, 11, 6, 12, 13, 14, 15, 16, 17, 18, 19, 20, 21, 22, 23, 24, 25, 26, 27, 28, 29, 30, 31, 32, 33, 34, 35, 36] (by decide +kernel) (by decide +kernel)
set_option maxRecDepth 20000 in
theorem gX2_seesCell_X2_stopsOn : GoodIn wsX2_seesCell (wsV RX2 74 RX2 yX2_stopsOn wsX2_stopsOn) := goodIn_app (goodIn_of _ (by decide +kernel)) ggX2_seesCell_X2_stopsOn
theorem dX2_seesCell_0 : decode cX2_seesCell 0 = .ok (.aload_n 0, 1) := by decide +kernel
theorem dX2_seesCell_1 : decode cX2_seesCell 1 = .ok (.getfield 22, 3) := by decide +kernel
theorem dX2_seesCell_4 : decode cX2_seesCell 4 = .ok (.iload_n 2, 1) := by decide +kernel
theorem dX2_seesCell_5 : decode cX2_seesCell 5 = .ok (.iaload, 1) := by decide +kernel
theorem dX2_seesCell_6 : decode cX2_seesCell 6 = .ok (.ifCond .le 23, 3) := by decide +kernel
theorem dX2_seesCell_9 : decode cX2_seesCell 9 = .ok (.aload_n 0, 1) := by decide +kernel
theorem dX2_seesCell_10 : decode cX2_seesCell 10 = .ok (.aload_n 0, 1) := by decide +kernel
theorem dX2_seesCell_11 : decode cX2_seesCell 11 = .ok (.getfield 19, 3) := by decide +kernel
theorem dX2_seesCell_14 : decode cX2_seesCell 14 = .ok (.iload_n 1, 1) := by decide +kernel
theorem dX2_seesCell_15 : decode cX2_seesCell 15 = .ok (.iaload, 1) := by decide +kernel
theorem dX2_seesCell_16 : decode cX2_seesCell 16 = .ok (.iload_n 2, 1) := by decide +kernel
theorem dX2_seesCell_17 : decode cX2_seesCell 17 = .ok (.invokevirtual 74, 3) := by decide +kernel
theorem dX2_seesCell_20 : decode cX2_seesCell 20 = .ok (.iconst 2, 1) := by decide +kernel
theorem dX2_seesCell_21 : decode cX2_seesCell 21 = .ok (.iand, 1) := by decide +kernel
theorem dX2_seesCell_22 : decode cX2_seesCell 22 = .ok (.ifCond .ne 7, 3) := by decide +kernel
theorem dX2_seesCell_25 : decode cX2_seesCell 25 = .ok (.iconst 1, 1) := by decide +kernel
theorem dX2_seesCell_26 : decode cX2_seesCell 26 = .ok (.goto 4, 3) := by decide +kernel
theorem dX2_seesCell_29 : decode cX2_seesCell 29 = .ok (.iconst 0, 1) := by decide +kernel
theorem dX2_seesCell_30 : decode cX2_seesCell 30 = .ok (.ireturn, 1) := by decide +kernel
set_option maxRecDepth 20000 in
theorem ggX2_isHidden_X2_seesCell : GoodIn wsX2_isHidden wsX2_seesCell := goodIn_r _ [7, 8, 2, 9, 10, 11, 6, 12, 13, 14, 15, 16, 17, 18, 19, 20, 21, 22, 23, 24, 25, 26, 27, 28, 29, 30, 31, 32, 33, 34, 35, 36, 37, 38, 39, 40, 41] (by decide +kernel) (by decide +kernel)
set_option maxRecDepth 20000 in
theorem gX2_isHidden_X2_seesCell : GoodIn wsX2_isHidden (wsV RX2 84 RX2 yX2_seesCell wsX2_seesCell) := goodIn_app (goodIn_of _ (by decide +kernel)) ggX2_isHidden_X2_seesCell
theorem dX2_isHidden_0 : decode cX2_isHidden 0 = .ok (.iconst 0, 1) := by decide +kernel
theorem dX2_isHidden_1 : decode cX2_isHidden 1 = .ok (.istore_n 2, 1) := by decide +kernel
theorem dX2_isHidden_2 : decode cX2_isHidden 2 = .ok (.iload_n 2, 1) := by decide +kernel
theorem dX2_isHidden_3 : decode cX2_isHidden 3 = .ok (.aload_n 0, 1) := by decide +kernel
theorem dX2_isHidden_4 : decode cX2_isHidden 4 = .ok (.getfield 45, 3) := by decide +kernel
theorem dX2_isHidden_7 : decode cX2_isHidden 7 = .ok (.if_icmp .ge 30, 3) := by decide +kernel
theorem dX2_isHidden_10 : decode cX2_isHidden 10 = .ok (.iload_n 2, 1) := by decide +kernel
theorem dX2_isHidden_11 : decode cX2_isHidden 11 = .ok (.iload_n 1, 1) := by decide +kernel
theorem dX2_isHidden_12 : decode cX2_isHidden 12 = .ok (.if_icmp .eq 19, 3) := by decide +kernel
theorem dX2_isHidden_15 : decode cX2_isHidden 15 = .ok (.aload_n 0, 1) := by decide +kernel
theorem dX2_isHidden_16 : decode cX2_isHidden 16 = .ok (.iload_n 2, 1) := by decide +kernel
theorem dX2_isHidden_17 : decode cX2_isHidden 17 = .ok (.aload_n 0, 1) := by decide +kernel
theorem dX2_isHidden_18 : decode cX2_isHidden 18 = .ok (.getfield 19, 3) := by decide +kernel
theorem dX2_isHidden_21 : decode cX2_isHidden 21 = .ok (.iload_n 1, 1) := by decide +kernel
theorem dX2_isHidden_22 : decode cX2_isHidden 22 = .ok (.iaload, 1) := by decide +kernel
theorem dX2_isHidden_23 : decode cX2_isHidden 23 = .ok (.invokevirtual 84, 3) := by decide +kernel
theorem dX2_isHidden_26 : decode cX2_isHidden 26 = .ok (.ifCond .eq 5, 3) := by decide +kernel
theorem dX2_isHidden_29 : decode cX2_isHidden 29 = .ok (.iconst 0, 1) := by decide +kernel
theorem dX2_isHidden_30 : decode cX2_isHidden 30 = .ok (.ireturn, 1) := by decide +kernel
theorem dX2_isHidden_31 : decode cX2_isHidden 31 = .ok (.iinc 2 1, 3) := by decide +kernel
theorem dX2_isHidden_34 : decode cX2_isHidden 34 = .ok (.goto (-32), 3) := by decide +kernel
theorem dX2_isHidden_37 : decode cX2_isHidden 37 = .ok (.iconst 1, 1) := by decide +kernel
theorem dX2_isHidden_38 : decode cX2_isHidden 38 = .ok (.ireturn, 1) := by decide +kernel
theorem dX2_lampOn_0 : decode cX2_lampOn 0 = .ok (.iconst 0, 1) := by decide +kernel
theorem dX2_lampOn_1 : decode cX2_lampOn 1 = .ok (.istore_n 2, 1) := by decide +kernel
theorem dX2_lampOn_2 : decode cX2_lampOn 2 = .ok (.iload_n 2, 1) := by decide +kernel
theorem dX2_lampOn_3 : decode cX2_lampOn 3 = .ok (.aload_n 0, 1) := by decide +kernel
theorem dX2_lampOn_4 : decode cX2_lampOn 4 = .ok (.getfield 42, 3) := by decide +kernel
theorem dX2_lampOn_7 : decode cX2_lampOn 7 = .ok (.if_icmp .ge 21, 3) := by decide +kernel
theorem dX2_lampOn_10 : decode cX2_lampOn 10 = .ok (.aload_n 0, 1) := by decide +kernel
theorem dX2_lampOn_11 : decode cX2_lampOn 11 = .ok (.getfield 13, 3) := by decide +kernel
theorem dX2_lampOn_14 : decode cX2_lampOn 14 = .ok (.iload_n 2, 1) := by decide +kernel
theorem dX2_lampOn_15 : decode cX2_lampOn 15 = .ok (.iaload, 1) := by decide +kernel
theorem dX2_lampOn_16 : decode cX2_lampOn 16 = .ok (.iload_n 1, 1) := by decide +kernel
theorem dX2_lampOn_17 : decode cX2_lampOn 17 = .ok (.if_icmp .ne 5, 3) := by decide +kernel
theorem dX2_lampOn_20 : decode cX2_lampOn 20 = .ok (.iload_n 2, 1) := by decide +kernel
theorem dX2_lampOn_21 : decode cX2_lampOn 21 = .ok (.ireturn, 1) := by decide +kernel
theorem dX2_lampOn_22 : decode cX2_lampOn 22 = .ok (.iinc 2 1, 3) := by decide +kernel
theorem dX2_lampOn_25 : decode cX2_lampOn 25 = .ok (.goto (-23), 3) := by decide +kernel
theorem dX2_lampOn_28 : decode cX2_lampOn 28 = .ok (.iconst (-1), 1) := by decide +kernel
theorem dX2_lampOn_29 : decode cX2_lampOn 29 = .ok (.ireturn, 1) := by decide +kernel
set_option maxRecDepth 20000 in
theorem ggX2_beside_X2_isCell : GoodIn wsX2_beside wsX2_isCell := goodIn_r _ [4, 5, 6, 3, 7] (by decide +kernel) (by decide +kernel)
set_option maxRecDepth 20000 in
theorem gX2_beside_X2_isCell : GoodIn wsX2_beside (va_wsS RX2 87 yX2_isCell wsX2_isCell) := goodIn_app (goodIn_of _ (by decide +kernel)) ggX2_beside_X2_isCell
theorem dX2_beside_0 : decode cX2_beside 0 = .ok (.iload_n 0, 1) := by decide +kernel
theorem dX2_beside_1 : decode cX2_beside 1 = .ok (.bipush 12, 2) := by decide +kernel
theorem dX2_beside_3 : decode cX2_beside 3 = .ok (.irem, 1) := by decide +kernel
theorem dX2_beside_4 : decode cX2_beside 4 = .ok (.iload_n 1, 1) := by decide +kernel
theorem dX2_beside_5 : decode cX2_beside 5 = .ok (.ifCond .ne 7, 3) := by decide +kernel
theorem dX2_beside_8 : decode cX2_beside 8 = .ok (.iconst (-1), 1) := by decide +kernel
theorem dX2_beside_9 : decode cX2_beside 9 = .ok (.goto 13, 3) := by decide +kernel
theorem dX2_beside_12 : decode cX2_beside 12 = .ok (.iload_n 1, 1) := by decide +kernel
theorem dX2_beside_13 : decode cX2_beside 13 = .ok (.iconst 1, 1) := by decide +kernel
theorem dX2_beside_14 : decode cX2_beside 14 = .ok (.if_icmp .ne 7, 3) := by decide +kernel
theorem dX2_beside_17 : decode cX2_beside 17 = .ok (.iconst 1, 1) := by decide +kernel
theorem dX2_beside_18 : decode cX2_beside 18 = .ok (.goto 4, 3) := by decide +kernel
theorem dX2_beside_21 : decode cX2_beside 21 = .ok (.iconst 0, 1) := by decide +kernel
theorem dX2_beside_22 : decode cX2_beside 22 = .ok (.iadd, 1) := by decide +kernel
theorem dX2_beside_23 : decode cX2_beside 23 = .ok (.istore_n 2, 1) := by decide +kernel
theorem dX2_beside_24 : decode cX2_beside 24 = .ok (.iload_n 0, 1) := by decide +kernel
theorem dX2_beside_25 : decode cX2_beside 25 = .ok (.bipush 12, 2) := by decide +kernel
theorem dX2_beside_27 : decode cX2_beside 27 = .ok (.idiv, 1) := by decide +kernel
theorem dX2_beside_28 : decode cX2_beside 28 = .ok (.iload_n 1, 1) := by decide +kernel
theorem dX2_beside_29 : decode cX2_beside 29 = .ok (.iconst 2, 1) := by decide +kernel
theorem dX2_beside_30 : decode cX2_beside 30 = .ok (.if_icmp .ne 7, 3) := by decide +kernel
theorem dX2_beside_33 : decode cX2_beside 33 = .ok (.iconst (-1), 1) := by decide +kernel
theorem dX2_beside_34 : decode cX2_beside 34 = .ok (.goto 13, 3) := by decide +kernel
theorem dX2_beside_37 : decode cX2_beside 37 = .ok (.iload_n 1, 1) := by decide +kernel
theorem dX2_beside_38 : decode cX2_beside 38 = .ok (.iconst 3, 1) := by decide +kernel
theorem dX2_beside_39 : decode cX2_beside 39 = .ok (.if_icmp .ne 7, 3) := by decide +kernel
theorem dX2_beside_42 : decode cX2_beside 42 = .ok (.iconst 1, 1) := by decide +kernel
theorem dX2_beside_43 : decode cX2_beside 43 = .ok (.goto 4, 3) := by decide +kernel
theorem dX2_beside_46 : decode cX2_beside 46 = .ok (.iconst 0, 1) := by decide +kernel
theorem dX2_beside_47 : decode cX2_beside 47 = .ok (.iadd, 1) := by decide +kernel
theorem dX2_beside_48 : decode cX2_beside 48 = .ok (.istore_n 3, 1) := by decide +kernel
theorem dX2_beside_49 : decode cX2_beside 49 = .ok (.iload_n 2, 1) := by decide +kernel
theorem dX2_beside_50 : decode cX2_beside 50 = .ok (.iload_n 3, 1) := by decide +kernel
theorem dX2_beside_51 : decode cX2_beside 51 = .ok (.invokestatic 87, 3) := by decide +kernel
theorem dX2_beside_54 : decode cX2_beside 54 = .ok (.ifCond .eq 12, 3) := by decide +kernel
theorem dX2_beside_57 : decode cX2_beside 57 = .ok (.bipush 12, 2) := by decide +kernel
theorem dX2_beside_59 : decode cX2_beside 59 = .ok (.iload_n 3, 1) := by decide +kernel
theorem dX2_beside_60 : decode cX2_beside 60 = .ok (.imul, 1) := by decide +kernel
theorem dX2_beside_61 : decode cX2_beside 61 = .ok (.iload_n 2, 1) := by decide +kernel
theorem dX2_beside_62 : decode cX2_beside 62 = .ok (.iadd, 1) := by decide +kernel
theorem dX2_beside_63 : decode cX2_beside 63 = .ok (.goto 4, 3) := by decide +kernel
theorem dX2_beside_66 : decode cX2_beside 66 = .ok (.iconst (-1), 1) := by decide +kernel
theorem dX2_beside_67 : decode cX2_beside 67 = .ok (.ireturn, 1) := by decide +kernel
set_option maxRecDepth 20000 in
theorem ggX2_stepsTo_X2_beside : GoodIn wsX2_stepsTo wsX2_beside := goodIn_r _ [8, 9, 10, 7, 11, 12, 13, 14] (by decide +kernel) (by decide +kernel)
set_option maxRecDepth 20000 in
theorem gX2_stepsTo_X2_beside : GoodIn wsX2_stepsTo (va_wsS RX2 90 yX2_beside wsX2_beside) := goodIn_app (goodIn_of _ (by decide +kernel)) ggX2_stepsTo_X2_beside
theorem dX2_stepsTo_0 : decode cX2_stepsTo 0 = .ok (.iconst 0, 1) := by decide +kernel
theorem dX2_stepsTo_1 : decode cX2_stepsTo 1 = .ok (.istore_n 3, 1) := by decide +kernel
theorem dX2_stepsTo_2 : decode cX2_stepsTo 2 = .ok (.iload_n 3, 1) := by decide +kernel
theorem dX2_stepsTo_3 : decode cX2_stepsTo 3 = .ok (.sipush 144, 3) := by decide +kernel
theorem dX2_stepsTo_6 : decode cX2_stepsTo 6 = .ok (.if_icmp .ge 16, 3) := by decide +kernel
theorem dX2_stepsTo_9 : decode cX2_stepsTo 9 = .ok (.aload_n 0, 1) := by decide +kernel
theorem dX2_stepsTo_10 : decode cX2_stepsTo 10 = .ok (.getfield 28, 3) := by decide +kernel
theorem dX2_stepsTo_13 : decode cX2_stepsTo 13 = .ok (.iload_n 3, 1) := by decide +kernel
theorem dX2_stepsTo_14 : decode cX2_stepsTo 14 = .ok (.iconst (-1), 1) := by decide +kernel
theorem dX2_stepsTo_15 : decode cX2_stepsTo 15 = .ok (.iastore, 1) := by decide +kernel
theorem dX2_stepsTo_16 : decode cX2_stepsTo 16 = .ok (.iinc 3 1, 3) := by decide +kernel
theorem dX2_stepsTo_19 : decode cX2_stepsTo 19 = .ok (.goto (-17), 3) := by decide +kernel
theorem dX2_stepsTo_22 : decode cX2_stepsTo 22 = .ok (.aload_n 0, 1) := by decide +kernel
theorem dX2_stepsTo_23 : decode cX2_stepsTo 23 = .ok (.getfield 28, 3) := by decide +kernel
theorem dX2_stepsTo_26 : decode cX2_stepsTo 26 = .ok (.iload_n 1, 1) := by decide +kernel
theorem dX2_stepsTo_27 : decode cX2_stepsTo 27 = .ok (.iconst 0, 1) := by decide +kernel
theorem dX2_stepsTo_28 : decode cX2_stepsTo 28 = .ok (.iastore, 1) := by decide +kernel
theorem dX2_stepsTo_29 : decode cX2_stepsTo 29 = .ok (.aload_n 0, 1) := by decide +kernel
theorem dX2_stepsTo_30 : decode cX2_stepsTo 30 = .ok (.getfield 31, 3) := by decide +kernel
theorem dX2_stepsTo_33 : decode cX2_stepsTo 33 = .ok (.iconst 0, 1) := by decide +kernel
theorem dX2_stepsTo_34 : decode cX2_stepsTo 34 = .ok (.iload_n 1, 1) := by decide +kernel
theorem dX2_stepsTo_35 : decode cX2_stepsTo 35 = .ok (.iastore, 1) := by decide +kernel
theorem dX2_stepsTo_36 : decode cX2_stepsTo 36 = .ok (.iconst 1, 1) := by decide +kernel
theorem dX2_stepsTo_37 : decode cX2_stepsTo 37 = .ok (.istore_n 3, 1) := by decide +kernel
theorem dX2_stepsTo_38 : decode cX2_stepsTo 38 = .ok (.iconst 0, 1) := by decide +kernel
theorem dX2_stepsTo_39 : decode cX2_stepsTo 39 = .ok (.istore 4, 2) := by decide +kernel
theorem dX2_stepsTo_41 : decode cX2_stepsTo 41 = .ok (.iload 4, 2) := by decide +kernel
theorem dX2_stepsTo_43 : decode cX2_stepsTo 43 = .ok (.iload_n 3, 1) := by decide +kernel
theorem dX2_stepsTo_44 : decode cX2_stepsTo 44 = .ok (.if_icmp .ge 110, 3) := by decide +kernel
theorem dX2_stepsTo_47 : decode cX2_stepsTo 47 = .ok (.iconst 0, 1) := by decide +kernel
theorem dX2_stepsTo_48 : decode cX2_stepsTo 48 = .ok (.istore 5, 2) := by decide +kernel
theorem dX2_stepsTo_50 : decode cX2_stepsTo 50 = .ok (.iload 5, 2) := by decide +kernel
theorem dX2_stepsTo_52 : decode cX2_stepsTo 52 = .ok (.iconst 4, 1) := by decide +kernel
theorem dX2_stepsTo_53 : decode cX2_stepsTo 53 = .ok (.if_icmp .ge 95, 3) := by decide +kernel
theorem dX2_stepsTo_56 : decode cX2_stepsTo 56 = .ok (.aload_n 0, 1) := by decide +kernel
theorem dX2_stepsTo_57 : decode cX2_stepsTo 57 = .ok (.getfield 31, 3) := by decide +kernel
theorem dX2_stepsTo_60 : decode cX2_stepsTo 60 = .ok (.iload 4, 2) := by decide +kernel
theorem dX2_stepsTo_62 : decode cX2_stepsTo 62 = .ok (.iaload, 1) := by decide +kernel
theorem dX2_stepsTo_63 : decode cX2_stepsTo 63 = .ok (.iload 5, 2) := by decide +kernel
theorem dX2_stepsTo_65 : decode cX2_stepsTo 65 = .ok (.invokestatic 90, 3) := by decide +kernel
theorem dX2_stepsTo_68 : decode cX2_stepsTo 68 = .ok (.istore 6, 2) := by decide +kernel
theorem dX2_stepsTo_70 : decode cX2_stepsTo 70 = .ok (.iload 6, 2) := by decide +kernel
theorem dX2_stepsTo_72 : decode cX2_stepsTo 72 = .ok (.iconst (-1), 1) := by decide +kernel
theorem dX2_stepsTo_73 : decode cX2_stepsTo 73 = .ok (.if_icmp .eq 69, 3) := by decide +kernel
theorem dX2_stepsTo_76 : decode cX2_stepsTo 76 = .ok (.aload_n 0, 1) := by decide +kernel
theorem dX2_stepsTo_77 : decode cX2_stepsTo 77 = .ok (.getfield 28, 3) := by decide +kernel
theorem dX2_stepsTo_80 : decode cX2_stepsTo 80 = .ok (.iload 6, 2) := by decide +kernel
theorem dX2_stepsTo_82 : decode cX2_stepsTo 82 = .ok (.iaload, 1) := by decide +kernel
theorem dX2_stepsTo_83 : decode cX2_stepsTo 83 = .ok (.iconst (-1), 1) := by decide +kernel
theorem dX2_stepsTo_84 : decode cX2_stepsTo 84 = .ok (.if_icmp .ne 58, 3) := by decide +kernel
theorem dX2_stepsTo_87 : decode cX2_stepsTo 87 = .ok (.aload_n 0, 1) := by decide +kernel
theorem dX2_stepsTo_88 : decode cX2_stepsTo 88 = .ok (.getfield 9, 3) := by decide +kernel
theorem dX2_stepsTo_91 : decode cX2_stepsTo 91 = .ok (.iload 6, 2) := by decide +kernel
theorem dX2_stepsTo_93 : decode cX2_stepsTo 93 = .ok (.iaload, 1) := by decide +kernel
theorem dX2_stepsTo_94 : decode cX2_stepsTo 94 = .ok (.ifCond .ne 48, 3) := by decide +kernel
theorem dX2_stepsTo_97 : decode cX2_stepsTo 97 = .ok (.aload_n 0, 1) := by decide +kernel
theorem dX2_stepsTo_98 : decode cX2_stepsTo 98 = .ok (.getfield 22, 3) := by decide +kernel
theorem dX2_stepsTo_101 : decode cX2_stepsTo 101 = .ok (.iload 6, 2) := by decide +kernel
theorem dX2_stepsTo_103 : decode cX2_stepsTo 103 = .ok (.iaload, 1) := by decide +kernel
theorem dX2_stepsTo_104 : decode cX2_stepsTo 104 = .ok (.ifCond .le 6, 3) := by decide +kernel
theorem dX2_stepsTo_107 : decode cX2_stepsTo 107 = .ok (.goto 35, 3) := by decide +kernel
theorem dX2_stepsTo_110 : decode cX2_stepsTo 110 = .ok (.aload_n 0, 1) := by decide +kernel
theorem dX2_stepsTo_111 : decode cX2_stepsTo 111 = .ok (.getfield 28, 3) := by decide +kernel
theorem dX2_stepsTo_114 : decode cX2_stepsTo 114 = .ok (.iload 6, 2) := by decide +kernel
theorem dX2_stepsTo_116 : decode cX2_stepsTo 116 = .ok (.aload_n 0, 1) := by decide +kernel
theorem dX2_stepsTo_117 : decode cX2_stepsTo 117 = .ok (.getfield 28, 3) := by decide +kernel
theorem dX2_stepsTo_120 : decode cX2_stepsTo 120 = .ok (.aload_n 0, 1) := by decide +kernel
theorem dX2_stepsTo_121 : decode cX2_stepsTo 121 = .ok (.getfield 31, 3) := by decide +kernel
theorem dX2_stepsTo_124 : decode cX2_stepsTo 124 = .ok (.iload 4, 2) := by decide +kernel
theorem dX2_stepsTo_126 : decode cX2_stepsTo 126 = .ok (.iaload, 1) := by decide +kernel
theorem dX2_stepsTo_127 : decode cX2_stepsTo 127 = .ok (.iaload, 1) := by decide +kernel
theorem dX2_stepsTo_128 : decode cX2_stepsTo 128 = .ok (.iconst 1, 1) := by decide +kernel
theorem dX2_stepsTo_129 : decode cX2_stepsTo 129 = .ok (.iadd, 1) := by decide +kernel
theorem dX2_stepsTo_130 : decode cX2_stepsTo 130 = .ok (.iastore, 1) := by decide +kernel
theorem dX2_stepsTo_131 : decode cX2_stepsTo 131 = .ok (.aload_n 0, 1) := by decide +kernel
theorem dX2_stepsTo_132 : decode cX2_stepsTo 132 = .ok (.getfield 31, 3) := by decide +kernel
theorem dX2_stepsTo_135 : decode cX2_stepsTo 135 = .ok (.iload_n 3, 1) := by decide +kernel
theorem dX2_stepsTo_136 : decode cX2_stepsTo 136 = .ok (.iload 6, 2) := by decide +kernel
theorem dX2_stepsTo_138 : decode cX2_stepsTo 138 = .ok (.iastore, 1) := by decide +kernel
theorem dX2_stepsTo_139 : decode cX2_stepsTo 139 = .ok (.iinc 3 1, 3) := by decide +kernel
theorem dX2_stepsTo_142 : decode cX2_stepsTo 142 = .ok (.iinc 5 1, 3) := by decide +kernel
theorem dX2_stepsTo_145 : decode cX2_stepsTo 145 = .ok (.goto (-95), 3) := by decide +kernel
theorem dX2_stepsTo_148 : decode cX2_stepsTo 148 = .ok (.iinc 4 1, 3) := by decide +kernel
theorem dX2_stepsTo_151 : decode cX2_stepsTo 151 = .ok (.goto (-110), 3) := by decide +kernel
theorem dX2_stepsTo_154 : decode cX2_stepsTo 154 = .ok (.aload_n 0, 1) := by decide +kernel
theorem dX2_stepsTo_155 : decode cX2_stepsTo 155 = .ok (.getfield 28, 3) := by decide +kernel
theorem dX2_stepsTo_158 : decode cX2_stepsTo 158 = .ok (.iload_n 2, 1) := by decide +kernel
theorem dX2_stepsTo_159 : decode cX2_stepsTo 159 = .ok (.iaload, 1) := by decide +kernel
theorem dX2_stepsTo_160 : decode cX2_stepsTo 160 = .ok (.ireturn, 1) := by decide +kernel
set_option maxRecDepth 20000 in
theorem ggX2_set_X2_isCell : GoodIn wsX2_set wsX2_isCell := goodIn_r _ [6, 7, 8, 5, 9] (by decide +kernel) (by decide +kernel)
set_option maxRecDepth 20000 in
theorem gX2_set_X2_isCell : GoodIn wsX2_set (va_wsS RX2 87 yX2_isCell wsX2_isCell) := goodIn_app (goodIn_of _ (by decide +kernel)) ggX2_set_X2_isCell
set_option maxRecDepth 20000 in
theorem ggX2_set_X2_no : GoodIn wsX2_set wsX2_no := goodIn_r _ [13, 1, 14, 15, 16, 17, 18, 19, 20, 21, 22, 23, 24, 25, 26, 27] (by decide +kernel) (by decide +kernel)
set_option maxRecDepth 20000 in
theorem gX2_set_X2_no : GoodIn wsX2_set (wsV RX2 93 RX2 yX2_no wsX2_no) := goodIn_app (goodIn_of _ (by decide +kernel)) ggX2_set_X2_no
set_option maxRecDepth 20000 in
theorem ggX2_set_X2_isIn : GoodIn wsX2_set wsX2_isIn := goodIn_r _ [9] (by decide +kernel) (by decide +kernel)
set_option maxRecDepth 20000 in
theorem gX2_set_X2_isIn : GoodIn wsX2_set (va_wsS RX2 38 yX2_isIn wsX2_isIn) := goodIn_app (goodIn_of _ (by decide +kernel)) ggX2_set_X2_isIn
theorem dX2_set_0 : decode cX2_set 0 = .ok (.aload_n 0, 1) := by decide +kernel
theorem dX2_set_1 : decode cX2_set 1 = .ok (.iconst 0, 1) := by decide +kernel
theorem dX2_set_2 : decode cX2_set 2 = .ok (.putfield 34, 3) := by decide +kernel
theorem dX2_set_5 : decode cX2_set 5 = .ok (.iload_n 1, 1) := by decide +kernel
theorem dX2_set_6 : decode cX2_set 6 = .ok (.iload_n 2, 1) := by decide +kernel
theorem dX2_set_7 : decode cX2_set 7 = .ok (.invokestatic 87, 3) := by decide +kernel
theorem dX2_set_10 : decode cX2_set 10 = .ok (.ifCond .ne 9, 3) := by decide +kernel
theorem dX2_set_13 : decode cX2_set 13 = .ok (.aload_n 0, 1) := by decide +kernel
theorem dX2_set_14 : decode cX2_set 14 = .ok (.iconst 1, 1) := by decide +kernel
theorem dX2_set_15 : decode cX2_set 15 = .ok (.invokevirtual 93, 3) := by decide +kernel
theorem dX2_set_18 : decode cX2_set 18 = .ok (.ireturn, 1) := by decide +kernel
theorem dX2_set_19 : decode cX2_set 19 = .ok (.iload_n 3, 1) := by decide +kernel
theorem dX2_set_20 : decode cX2_set 20 = .ok (.iconst 0, 1) := by decide +kernel
theorem dX2_set_21 : decode cX2_set 21 = .ok (.iconst 3, 1) := by decide +kernel
theorem dX2_set_22 : decode cX2_set 22 = .ok (.invokestatic 38, 3) := by decide +kernel
theorem dX2_set_25 : decode cX2_set 25 = .ok (.ifCond .ne 9, 3) := by decide +kernel
theorem dX2_set_28 : decode cX2_set 28 = .ok (.aload_n 0, 1) := by decide +kernel
theorem dX2_set_29 : decode cX2_set 29 = .ok (.iconst 2, 1) := by decide +kernel
theorem dX2_set_30 : decode cX2_set 30 = .ok (.invokevirtual 93, 3) := by decide +kernel
theorem dX2_set_33 : decode cX2_set 33 = .ok (.ireturn, 1) := by decide +kernel
theorem dX2_set_34 : decode cX2_set 34 = .ok (.aload_n 0, 1) := by decide +kernel
theorem dX2_set_35 : decode cX2_set 35 = .ok (.getfield 9, 3) := by decide +kernel
theorem dX2_set_38 : decode cX2_set 38 = .ok (.bipush 12, 2) := by decide +kernel
theorem dX2_set_40 : decode cX2_set 40 = .ok (.iload_n 2, 1) := by decide +kernel
theorem dX2_set_41 : decode cX2_set 41 = .ok (.imul, 1) := by decide +kernel
theorem dX2_set_42 : decode cX2_set 42 = .ok (.iload_n 1, 1) := by decide +kernel
theorem dX2_set_43 : decode cX2_set 43 = .ok (.iadd, 1) := by decide +kernel
theorem dX2_set_44 : decode cX2_set 44 = .ok (.iaload, 1) := by decide +kernel
theorem dX2_set_45 : decode cX2_set 45 = .ok (.istore 4, 2) := by decide +kernel
theorem dX2_set_47 : decode cX2_set 47 = .ok (.aload_n 0, 1) := by decide +kernel
theorem dX2_set_48 : decode cX2_set 48 = .ok (.getfield 9, 3) := by decide +kernel
theorem dX2_set_51 : decode cX2_set 51 = .ok (.bipush 12, 2) := by decide +kernel
theorem dX2_set_53 : decode cX2_set 53 = .ok (.iload_n 2, 1) := by decide +kernel
theorem dX2_set_54 : decode cX2_set 54 = .ok (.imul, 1) := by decide +kernel
theorem dX2_set_55 : decode cX2_set 55 = .ok (.iload_n 1, 1) := by decide +kernel
theorem dX2_set_56 : decode cX2_set 56 = .ok (.iadd, 1) := by decide +kernel
theorem dX2_set_57 : decode cX2_set 57 = .ok (.iload_n 3, 1) := by decide +kernel
theorem dX2_set_58 : decode cX2_set 58 = .ok (.iastore, 1) := by decide +kernel
theorem dX2_set_59 : decode cX2_set 59 = .ok (.iload 4, 2) := by decide +kernel
theorem dX2_set_61 : decode cX2_set 61 = .ok (.ireturn, 1) := by decide +kernel
set_option maxRecDepth 20000 in
theorem ggX2_lamp_X2_isCell : GoodIn wsX2_lamp wsX2_isCell := goodIn_r _ [8, 9, 10, 7, 11] (by decide +kernel) (by decide +kernel)
set_option maxRecDepth 20000 in
theorem gX2_lamp_X2_isCell : GoodIn wsX2_lamp (va_wsS RX2 87 yX2_isCell wsX2_isCell) := goodIn_app (goodIn_of _ (by decide +kernel)) ggX2_lamp_X2_isCell
set_option maxRecDepth 20000 in
theorem ggX2_lamp_X2_no : GoodIn wsX2_lamp wsX2_no := goodIn_r _ [15, 1, 20, 21, 22, 23, 24, 25, 26, 27, 28, 29, 30, 31, 32, 33] (by decide +kernel) (by decide +kernel)
set_option maxRecDepth 20000 in
theorem gX2_lamp_X2_no : GoodIn wsX2_lamp (wsV RX2 93 RX2 yX2_no wsX2_no) := goodIn_app (goodIn_of _ (by decide +kernel)) ggX2_lamp_X2_no
set_option maxRecDepth 20000 in
theorem ggX2_lamp_X2_isIn : GoodIn wsX2_lamp wsX2_isIn := goodIn_r _ [11] (by decide +kernel) (by decide +kernel)
set_option maxRecDepth 20000 in
theorem gX2_lamp_X2_isIn : GoodIn wsX2_lamp (va_wsS RX2 38 yX2_isIn wsX2_isIn) := goodIn_app (goodIn_of _ (by decide +kernel)) ggX2_lamp_X2_isIn
set_option maxRecDepth 20000 in
theorem ggX2_lamp_X2_lampOn : GoodIn wsX2_lamp wsX2_lampOn := goodIn_r _ [19, 2, 3, 20, 21, 22, 23, 24, 25, 26, 27, 28, 29, 30, 31, 32, 33] (by decide +kernel) (by decide +kernel)
set_option maxRecDepth 20000 in
theorem gX2_lamp_X2_lampOn : GoodIn wsX2_lamp (wsV RX2 96 RX2 yX2_lampOn wsX2_lampOn) := goodIn_app (goodIn_of _ (by decide +kernel)) ggX2_lamp_X2_lampOn
theorem dX2_lamp_0 : decode cX2_lamp 0 = .ok (.aload_n 0, 1) := by decide +kernel
theorem dX2_lamp_1 : decode cX2_lamp 1 = .ok (.iconst 0, 1) := by decide +kernel
theorem dX2_lamp_2 : decode cX2_lamp 2 = .ok (.putfield 34, 3) := by decide +kernel
theorem dX2_lamp_5 : decode cX2_lamp 5 = .ok (.iload_n 1, 1) := by decide +kernel
theorem dX2_lamp_6 : decode cX2_lamp 6 = .ok (.iload_n 2, 1) := by decide +kernel
theorem dX2_lamp_7 : decode cX2_lamp 7 = .ok (.invokestatic 87, 3) := by decide +kernel
theorem dX2_lamp_10 : decode cX2_lamp 10 = .ok (.ifCond .ne 9, 3) := by decide +kernel
theorem dX2_lamp_13 : decode cX2_lamp 13 = .ok (.aload_n 0, 1) := by decide +kernel
theorem dX2_lamp_14 : decode cX2_lamp 14 = .ok (.iconst 1, 1) := by decide +kernel
theorem dX2_lamp_15 : decode cX2_lamp 15 = .ok (.invokevirtual 93, 3) := by decide +kernel
theorem dX2_lamp_18 : decode cX2_lamp 18 = .ok (.ireturn, 1) := by decide +kernel
theorem dX2_lamp_19 : decode cX2_lamp 19 = .ok (.iload_n 3, 1) := by decide +kernel
theorem dX2_lamp_20 : decode cX2_lamp 20 = .ok (.iconst 1, 1) := by decide +kernel
theorem dX2_lamp_21 : decode cX2_lamp 21 = .ok (.bipush 12, 2) := by decide +kernel
theorem dX2_lamp_23 : decode cX2_lamp 23 = .ok (.invokestatic 38, 3) := by decide +kernel
theorem dX2_lamp_26 : decode cX2_lamp 26 = .ok (.ifCond .ne 9, 3) := by decide +kernel
theorem dX2_lamp_29 : decode cX2_lamp 29 = .ok (.aload_n 0, 1) := by decide +kernel
theorem dX2_lamp_30 : decode cX2_lamp 30 = .ok (.iconst 2, 1) := by decide +kernel
theorem dX2_lamp_31 : decode cX2_lamp 31 = .ok (.invokevirtual 93, 3) := by decide +kernel
theorem dX2_lamp_34 : decode cX2_lamp 34 = .ok (.ireturn, 1) := by decide +kernel
theorem dX2_lamp_35 : decode cX2_lamp 35 = .ok (.aload_n 0, 1) := by decide +kernel
theorem dX2_lamp_36 : decode cX2_lamp 36 = .ok (.getfield 42, 3) := by decide +kernel
theorem dX2_lamp_39 : decode cX2_lamp 39 = .ok (.iconst 4, 1) := by decide +kernel
theorem dX2_lamp_40 : decode cX2_lamp 40 = .ok (.if_icmp .eq 17, 3) := by decide +kernel
theorem dX2_lamp_43 : decode cX2_lamp 43 = .ok (.aload_n 0, 1) := by decide +kernel
theorem dX2_lamp_44 : decode cX2_lamp 44 = .ok (.bipush 12, 2) := by decide +kernel
theorem dX2_lamp_46 : decode cX2_lamp 46 = .ok (.iload_n 2, 1) := by decide +kernel
theorem dX2_lamp_47 : decode cX2_lamp 47 = .ok (.imul, 1) := by decide +kernel
theorem dX2_lamp_48 : decode cX2_lamp 48 = .ok (.iload_n 1, 1) := by decide +kernel
theorem dX2_lamp_49 : decode cX2_lamp 49 = .ok (.iadd, 1) := by decide +kernel
theorem dX2_lamp_50 : decode cX2_lamp 50 = .ok (.invokevirtual 96, 3) := by decide +kernel
theorem dX2_lamp_53 : decode cX2_lamp 53 = .ok (.iconst (-1), 1) := by decide +kernel
theorem dX2_lamp_54 : decode cX2_lamp 54 = .ok (.if_icmp .eq 9, 3) := by decide +kernel
theorem dX2_lamp_57 : decode cX2_lamp 57 = .ok (.aload_n 0, 1) := by decide +kernel
theorem dX2_lamp_58 : decode cX2_lamp 58 = .ok (.iconst 3, 1) := by decide +kernel
theorem dX2_lamp_59 : decode cX2_lamp 59 = .ok (.invokevirtual 93, 3) := by decide +kernel
theorem dX2_lamp_62 : decode cX2_lamp 62 = .ok (.ireturn, 1) := by decide +kernel
theorem dX2_lamp_63 : decode cX2_lamp 63 = .ok (.aload_n 0, 1) := by decide +kernel
theorem dX2_lamp_64 : decode cX2_lamp 64 = .ok (.getfield 13, 3) := by decide +kernel
theorem dX2_lamp_67 : decode cX2_lamp 67 = .ok (.aload_n 0, 1) := by decide +kernel
theorem dX2_lamp_68 : decode cX2_lamp 68 = .ok (.getfield 42, 3) := by decide +kernel
theorem dX2_lamp_71 : decode cX2_lamp 71 = .ok (.bipush 12, 2) := by decide +kernel
theorem dX2_lamp_73 : decode cX2_lamp 73 = .ok (.iload_n 2, 1) := by decide +kernel
theorem dX2_lamp_74 : decode cX2_lamp 74 = .ok (.imul, 1) := by decide +kernel
theorem dX2_lamp_75 : decode cX2_lamp 75 = .ok (.iload_n 1, 1) := by decide +kernel
theorem dX2_lamp_76 : decode cX2_lamp 76 = .ok (.iadd, 1) := by decide +kernel
theorem dX2_lamp_77 : decode cX2_lamp 77 = .ok (.iastore, 1) := by decide +kernel
theorem dX2_lamp_78 : decode cX2_lamp 78 = .ok (.aload_n 0, 1) := by decide +kernel
theorem dX2_lamp_79 : decode cX2_lamp 79 = .ok (.getfield 16, 3) := by decide +kernel
theorem dX2_lamp_82 : decode cX2_lamp 82 = .ok (.aload_n 0, 1) := by decide +kernel
theorem dX2_lamp_83 : decode cX2_lamp 83 = .ok (.getfield 42, 3) := by decide +kernel
theorem dX2_lamp_86 : decode cX2_lamp 86 = .ok (.iload_n 3, 1) := by decide +kernel
theorem dX2_lamp_87 : decode cX2_lamp 87 = .ok (.iastore, 1) := by decide +kernel
theorem dX2_lamp_88 : decode cX2_lamp 88 = .ok (.aload_n 0, 1) := by decide +kernel
theorem dX2_lamp_89 : decode cX2_lamp 89 = .ok (.dup, 1) := by decide +kernel
theorem dX2_lamp_90 : decode cX2_lamp 90 = .ok (.getfield 42, 3) := by decide +kernel
theorem dX2_lamp_93 : decode cX2_lamp 93 = .ok (.iconst 1, 1) := by decide +kernel
theorem dX2_lamp_94 : decode cX2_lamp 94 = .ok (.iadd, 1) := by decide +kernel
theorem dX2_lamp_95 : decode cX2_lamp 95 = .ok (.putfield 42, 3) := by decide +kernel
theorem dX2_lamp_98 : decode cX2_lamp 98 = .ok (.aload_n 0, 1) := by decide +kernel
theorem dX2_lamp_99 : decode cX2_lamp 99 = .ok (.getfield 42, 3) := by decide +kernel
theorem dX2_lamp_102 : decode cX2_lamp 102 = .ok (.iconst 1, 1) := by decide +kernel
theorem dX2_lamp_103 : decode cX2_lamp 103 = .ok (.isub, 1) := by decide +kernel
theorem dX2_lamp_104 : decode cX2_lamp 104 = .ok (.ireturn, 1) := by decide +kernel
set_option maxRecDepth 20000 in
theorem ggX2_carry_X2_isLamp : GoodIn wsX2_carry wsX2_isLamp := goodIn_r _ [7, 8, 9, 10, 6, 11, 62, 63, 64, 65, 66, 67, 68, 69, 70, 71, 72, 73, 74, 75] (by decide +kernel) (by decide +kernel)
set_option maxRecDepth 20000 in
theorem gX2_carry_X2_isLamp : GoodIn wsX2_carry (wsV RX2 99 RX2 yX2_isLamp wsX2_isLamp) := goodIn_app (goodIn_of _ (by decide +kernel)) ggX2_carry_X2_isLamp
set_option maxRecDepth 20000 in
theorem ggX2_carry_X2_isCell : GoodIn wsX2_carry wsX2_isCell := goodIn_r _ [14, 9, 10, 6, 11] (by decide +kernel) (by decide +kernel)
set_option maxRecDepth 20000 in
theorem gX2_carry_X2_isCell : GoodIn wsX2_carry (va_wsS RX2 87 yX2_isCell wsX2_isCell) := goodIn_app (goodIn_of _ (by decide +kernel)) ggX2_carry_X2_isCell
set_option maxRecDepth 20000 in
theorem ggX2_carry_X2_no : GoodIn wsX2_carry wsX2_no := goodIn_r _ [18, 1, 62, 63, 64, 65, 66, 67, 68, 69, 70, 71, 72, 73, 74, 75] (by decide +kernel) (by decide +kernel)
set_option maxRecDepth 20000 in
theorem gX2_carry_X2_no : GoodIn wsX2_carry (wsV RX2 93 RX2 yX2_no wsX2_no) := goodIn_app (goodIn_of _ (by decide +kernel)) ggX2_carry_X2_no
set_option maxRecDepth 20000 in
theorem ggX2_carry_X2_lampOn : GoodIn wsX2_carry wsX2_lampOn := goodIn_r _ [22, 8, 2, 62, 63, 64, 65, 66, 67, 68, 69, 70, 71, 72, 73, 74, 75] (by decide +kernel) (by decide +kernel)
set_option maxRecDepth 20000 in
theorem gX2_carry_X2_lampOn : GoodIn wsX2_carry (wsV RX2 96 RX2 yX2_lampOn wsX2_lampOn) := goodIn_app (goodIn_of _ (by decide +kernel)) ggX2_carry_X2_lampOn
set_option maxRecDepth 20000 in
theorem ggX2_carry_X2_look : GoodIn wsX2_carry wsX2_look := goodIn_r _ [26, 27, 28, 8, 29, 2, 30, 31, 32, 33, 34, 35, 36, 6, 37, 38, 39, 40, 41, 42, 43, 44, 45, 46, 47, 48, 49, 50, 51, 52, 53, 54, 55, 56, 57, 58, 59, 60, 61, 62, 63, 64, 65, 66, 67, 68, 69, 70, 71, 72, 73, 74, 75] (by decide +kernel) (by decide +kernel)
set_option maxRecDepth 20000 in
theorem gX2_carry_X2_look : GoodIn wsX2_carry (wsV RX2 103 RX2 yX2_look wsX2_look) := goodIn_app (goodIn_of _ (by decide +kernel)) ggX2_carry_X2_look
theorem dX2_carry_0 : decode cX2_carry 0 = .ok (.aload_n 0, 1) := by decide +kernel
theorem dX2_carry_1 : decode cX2_carry 1 = .ok (.iconst 0, 1) := by decide +kernel
theorem dX2_carry_2 : decode cX2_carry 2 = .ok (.putfield 34, 3) := by decide +kernel
theorem dX2_carry_5 : decode cX2_carry 5 = .ok (.aload_n 0, 1) := by decide +kernel
theorem dX2_carry_6 : decode cX2_carry 6 = .ok (.iload_n 1, 1) := by decide +kernel
theorem dX2_carry_7 : decode cX2_carry 7 = .ok (.invokevirtual 99, 3) := by decide +kernel
theorem dX2_carry_10 : decode cX2_carry 10 = .ok (.ifCond .eq 11, 3) := by decide +kernel
theorem dX2_carry_13 : decode cX2_carry 13 = .ok (.iload_n 2, 1) := by decide +kernel
theorem dX2_carry_14 : decode cX2_carry 14 = .ok (.iload_n 3, 1) := by decide +kernel
theorem dX2_carry_15 : decode cX2_carry 15 = .ok (.invokestatic 87, 3) := by decide +kernel
theorem dX2_carry_18 : decode cX2_carry 18 = .ok (.ifCond .ne 9, 3) := by decide +kernel
theorem dX2_carry_21 : decode cX2_carry 21 = .ok (.aload_n 0, 1) := by decide +kernel
theorem dX2_carry_22 : decode cX2_carry 22 = .ok (.iconst 1, 1) := by decide +kernel
theorem dX2_carry_23 : decode cX2_carry 23 = .ok (.invokevirtual 93, 3) := by decide +kernel
theorem dX2_carry_26 : decode cX2_carry 26 = .ok (.ireturn, 1) := by decide +kernel
theorem dX2_carry_27 : decode cX2_carry 27 = .ok (.aload_n 0, 1) := by decide +kernel
theorem dX2_carry_28 : decode cX2_carry 28 = .ok (.bipush 12, 2) := by decide +kernel
theorem dX2_carry_30 : decode cX2_carry 30 = .ok (.iload_n 3, 1) := by decide +kernel
theorem dX2_carry_31 : decode cX2_carry 31 = .ok (.imul, 1) := by decide +kernel
theorem dX2_carry_32 : decode cX2_carry 32 = .ok (.iload_n 2, 1) := by decide +kernel
theorem dX2_carry_33 : decode cX2_carry 33 = .ok (.iadd, 1) := by decide +kernel
theorem dX2_carry_34 : decode cX2_carry 34 = .ok (.invokevirtual 96, 3) := by decide +kernel
theorem dX2_carry_37 : decode cX2_carry 37 = .ok (.iconst (-1), 1) := by decide +kernel
theorem dX2_carry_38 : decode cX2_carry 38 = .ok (.if_icmp .eq 9, 3) := by decide +kernel
theorem dX2_carry_41 : decode cX2_carry 41 = .ok (.aload_n 0, 1) := by decide +kernel
theorem dX2_carry_42 : decode cX2_carry 42 = .ok (.iconst 2, 1) := by decide +kernel
theorem dX2_carry_43 : decode cX2_carry 43 = .ok (.invokevirtual 93, 3) := by decide +kernel
theorem dX2_carry_46 : decode cX2_carry 46 = .ok (.ireturn, 1) := by decide +kernel
theorem dX2_carry_47 : decode cX2_carry 47 = .ok (.aload_n 0, 1) := by decide +kernel
theorem dX2_carry_48 : decode cX2_carry 48 = .ok (.getfield 13, 3) := by decide +kernel
theorem dX2_carry_51 : decode cX2_carry 51 = .ok (.iload_n 1, 1) := by decide +kernel
theorem dX2_carry_52 : decode cX2_carry 52 = .ok (.bipush 12, 2) := by decide +kernel
theorem dX2_carry_54 : decode cX2_carry 54 = .ok (.iload_n 3, 1) := by decide +kernel
theorem dX2_carry_55 : decode cX2_carry 55 = .ok (.imul, 1) := by decide +kernel
theorem dX2_carry_56 : decode cX2_carry 56 = .ok (.iload_n 2, 1) := by decide +kernel
theorem dX2_carry_57 : decode cX2_carry 57 = .ok (.iadd, 1) := by decide +kernel
theorem dX2_carry_58 : decode cX2_carry 58 = .ok (.iastore, 1) := by decide +kernel
theorem dX2_carry_59 : decode cX2_carry 59 = .ok (.aload_n 0, 1) := by decide +kernel
theorem dX2_carry_60 : decode cX2_carry 60 = .ok (.invokevirtual 103, 3) := by decide +kernel
theorem dX2_carry_63 : decode cX2_carry 63 = .ok (.ireturn, 1) := by decide +kernel
set_option maxRecDepth 20000 in
theorem ggX2_turn_X2_isLamp : GoodIn wsX2_turn wsX2_isLamp := goodIn_r _ [7, 8, 9, 10, 6, 11, 16, 17, 18, 19, 20, 21, 22, 23, 24, 25, 26, 27, 28, 29] (by decide +kernel) (by decide +kernel)
set_option maxRecDepth 20000 in
theorem gX2_turn_X2_isLamp : GoodIn wsX2_turn (wsV RX2 99 RX2 yX2_isLamp wsX2_isLamp) := goodIn_app (goodIn_of _ (by decide +kernel)) ggX2_turn_X2_isLamp
set_option maxRecDepth 20000 in
theorem ggX2_turn_X2_no : GoodIn wsX2_turn wsX2_no := goodIn_r _ [15, 1, 16, 17, 18, 19, 20, 21, 22, 23, 24, 25, 26, 27, 28, 29] (by decide +kernel) (by decide +kernel)
set_option maxRecDepth 20000 in
theorem gX2_turn_X2_no : GoodIn wsX2_turn (wsV RX2 93 RX2 yX2_no wsX2_no) := goodIn_app (goodIn_of _ (by decide +kernel)) ggX2_turn_X2_no
set_option maxRecDepth 20000 in
theorem ggX2_turn_X2_isIn : GoodIn wsX2_turn wsX2_isIn := goodIn_r _ [11] (by decide +kernel) (by decide +kernel)
set_option maxRecDepth 20000 in
theorem gX2_turn_X2_isIn : GoodIn wsX2_turn (va_wsS RX2 38 yX2_isIn wsX2_isIn) := goodIn_app (goodIn_of _ (by decide +kernel)) ggX2_turn_X2_isIn
theorem dX2_turn_0 : decode cX2_turn 0 = .ok (.aload_n 0, 1) := by decide +kernel
theorem dX2_turn_1 : decode cX2_turn 1 = .ok (.iconst 0, 1) := by decide +kernel
theorem dX2_turn_2 : decode cX2_turn 2 = .ok (.putfield 34, 3) := by decide +kernel
theorem dX2_turn_5 : decode cX2_turn 5 = .ok (.aload_n 0, 1) := by decide +kernel
theorem dX2_turn_6 : decode cX2_turn 6 = .ok (.iload_n 1, 1) := by decide +kernel
theorem dX2_turn_7 : decode cX2_turn 7 = .ok (.invokevirtual 99, 3) := by decide +kernel
theorem dX2_turn_10 : decode cX2_turn 10 = .ok (.ifCond .ne 9, 3) := by decide +kernel
theorem dX2_turn_13 : decode cX2_turn 13 = .ok (.aload_n 0, 1) := by decide +kernel
theorem dX2_turn_14 : decode cX2_turn 14 = .ok (.iconst 1, 1) := by decide +kernel
theorem dX2_turn_15 : decode cX2_turn 15 = .ok (.invokevirtual 93, 3) := by decide +kernel
theorem dX2_turn_18 : decode cX2_turn 18 = .ok (.ireturn, 1) := by decide +kernel
theorem dX2_turn_19 : decode cX2_turn 19 = .ok (.iload_n 2, 1) := by decide +kernel
theorem dX2_turn_20 : decode cX2_turn 20 = .ok (.iconst 1, 1) := by decide +kernel
theorem dX2_turn_21 : decode cX2_turn 21 = .ok (.bipush 12, 2) := by decide +kernel
theorem dX2_turn_23 : decode cX2_turn 23 = .ok (.invokestatic 38, 3) := by decide +kernel
theorem dX2_turn_26 : decode cX2_turn 26 = .ok (.ifCond .ne 9, 3) := by decide +kernel
theorem dX2_turn_29 : decode cX2_turn 29 = .ok (.aload_n 0, 1) := by decide +kernel
theorem dX2_turn_30 : decode cX2_turn 30 = .ok (.iconst 2, 1) := by decide +kernel
theorem dX2_turn_31 : decode cX2_turn 31 = .ok (.invokevirtual 93, 3) := by decide +kernel
theorem dX2_turn_34 : decode cX2_turn 34 = .ok (.ireturn, 1) := by decide +kernel
theorem dX2_turn_35 : decode cX2_turn 35 = .ok (.aload_n 0, 1) := by decide +kernel
theorem dX2_turn_36 : decode cX2_turn 36 = .ok (.getfield 16, 3) := by decide +kernel
theorem dX2_turn_39 : decode cX2_turn 39 = .ok (.iload_n 1, 1) := by decide +kernel
theorem dX2_turn_40 : decode cX2_turn 40 = .ok (.iaload, 1) := by decide +kernel
theorem dX2_turn_41 : decode cX2_turn 41 = .ok (.istore_n 3, 1) := by decide +kernel
theorem dX2_turn_42 : decode cX2_turn 42 = .ok (.aload_n 0, 1) := by decide +kernel
theorem dX2_turn_43 : decode cX2_turn 43 = .ok (.getfield 16, 3) := by decide +kernel
theorem dX2_turn_46 : decode cX2_turn 46 = .ok (.iload_n 1, 1) := by decide +kernel
theorem dX2_turn_47 : decode cX2_turn 47 = .ok (.iload_n 2, 1) := by decide +kernel
theorem dX2_turn_48 : decode cX2_turn 48 = .ok (.iastore, 1) := by decide +kernel
theorem dX2_turn_49 : decode cX2_turn 49 = .ok (.iload_n 3, 1) := by decide +kernel
theorem dX2_turn_50 : decode cX2_turn 50 = .ok (.ireturn, 1) := by decide +kernel
set_option maxRecDepth 20000 in
theorem ggX2_watcher_X2_isCell : GoodIn wsX2_watcher wsX2_isCell := goodIn_r _ [8, 9, 10, 7, 11] (by decide +kernel) (by decide +kernel)
set_option maxRecDepth 20000 in
theorem gX2_watcher_X2_isCell : GoodIn wsX2_watcher (va_wsS RX2 87 yX2_isCell wsX2_isCell) := goodIn_app (goodIn_of _ (by decide +kernel)) ggX2_watcher_X2_isCell
set_option maxRecDepth 20000 in
theorem ggX2_watcher_X2_no : GoodIn wsX2_watcher wsX2_no := goodIn_r _ [15, 1, 16, 17, 18, 19, 20, 21, 22, 23, 24, 25, 26, 27, 28, 29] (by decide +kernel) (by decide +kernel)
set_option maxRecDepth 20000 in
theorem gX2_watcher_X2_no : GoodIn wsX2_watcher (wsV RX2 93 RX2 yX2_no wsX2_no) := goodIn_app (goodIn_of _ (by decide +kernel)) ggX2_watcher_X2_no
theorem dX2_watcher_0 : decode cX2_watcher 0 = .ok (.aload_n 0, 1) := by decide +kernel
theorem dX2_watcher_1 : decode cX2_watcher 1 = .ok (.iconst 0, 1) := by decide +kernel
theorem dX2_watcher_2 : decode cX2_watcher 2 = .ok (.putfield 34, 3) := by decide +kernel
theorem dX2_watcher_5 : decode cX2_watcher 5 = .ok (.iload_n 1, 1) := by decide +kernel
theorem dX2_watcher_6 : decode cX2_watcher 6 = .ok (.iload_n 2, 1) := by decide +kernel
theorem dX2_watcher_7 : decode cX2_watcher 7 = .ok (.invokestatic 87, 3) := by decide +kernel
theorem dX2_watcher_10 : decode cX2_watcher 10 = .ok (.ifCond .ne 9, 3) := by decide +kernel
theorem dX2_watcher_13 : decode cX2_watcher 13 = .ok (.aload_n 0, 1) := by decide +kernel
theorem dX2_watcher_14 : decode cX2_watcher 14 = .ok (.iconst 1, 1) := by decide +kernel
theorem dX2_watcher_15 : decode cX2_watcher 15 = .ok (.invokevirtual 93, 3) := by decide +kernel
theorem dX2_watcher_18 : decode cX2_watcher 18 = .ok (.ireturn, 1) := by decide +kernel
theorem dX2_watcher_19 : decode cX2_watcher 19 = .ok (.aload_n 0, 1) := by decide +kernel
theorem dX2_watcher_20 : decode cX2_watcher 20 = .ok (.getfield 45, 3) := by decide +kernel
theorem dX2_watcher_23 : decode cX2_watcher 23 = .ok (.bipush 6, 2) := by decide +kernel
theorem dX2_watcher_25 : decode cX2_watcher 25 = .ok (.if_icmp .eq 17, 3) := by decide +kernel
theorem dX2_watcher_28 : decode cX2_watcher 28 = .ok (.aload_n 0, 1) := by decide +kernel
theorem dX2_watcher_29 : decode cX2_watcher 29 = .ok (.getfield 9, 3) := by decide +kernel
theorem dX2_watcher_32 : decode cX2_watcher 32 = .ok (.bipush 12, 2) := by decide +kernel
theorem dX2_watcher_34 : decode cX2_watcher 34 = .ok (.iload_n 2, 1) := by decide +kernel
theorem dX2_watcher_35 : decode cX2_watcher 35 = .ok (.imul, 1) := by decide +kernel
theorem dX2_watcher_36 : decode cX2_watcher 36 = .ok (.iload_n 1, 1) := by decide +kernel
theorem dX2_watcher_37 : decode cX2_watcher 37 = .ok (.iadd, 1) := by decide +kernel
theorem dX2_watcher_38 : decode cX2_watcher 38 = .ok (.iaload, 1) := by decide +kernel
theorem dX2_watcher_39 : decode cX2_watcher 39 = .ok (.ifCond .eq 9, 3) := by decide +kernel
theorem dX2_watcher_42 : decode cX2_watcher 42 = .ok (.aload_n 0, 1) := by decide +kernel
theorem dX2_watcher_43 : decode cX2_watcher 43 = .ok (.iconst 2, 1) := by decide +kernel
theorem dX2_watcher_44 : decode cX2_watcher 44 = .ok (.invokevirtual 93, 3) := by decide +kernel
theorem dX2_watcher_47 : decode cX2_watcher 47 = .ok (.ireturn, 1) := by decide +kernel
theorem dX2_watcher_48 : decode cX2_watcher 48 = .ok (.aload_n 0, 1) := by decide +kernel
theorem dX2_watcher_49 : decode cX2_watcher 49 = .ok (.getfield 19, 3) := by decide +kernel
theorem dX2_watcher_52 : decode cX2_watcher 52 = .ok (.aload_n 0, 1) := by decide +kernel
theorem dX2_watcher_53 : decode cX2_watcher 53 = .ok (.getfield 45, 3) := by decide +kernel
theorem dX2_watcher_56 : decode cX2_watcher 56 = .ok (.bipush 12, 2) := by decide +kernel
theorem dX2_watcher_58 : decode cX2_watcher 58 = .ok (.iload_n 2, 1) := by decide +kernel
theorem dX2_watcher_59 : decode cX2_watcher 59 = .ok (.imul, 1) := by decide +kernel
theorem dX2_watcher_60 : decode cX2_watcher 60 = .ok (.iload_n 1, 1) := by decide +kernel
theorem dX2_watcher_61 : decode cX2_watcher 61 = .ok (.iadd, 1) := by decide +kernel
theorem dX2_watcher_62 : decode cX2_watcher 62 = .ok (.iastore, 1) := by decide +kernel
theorem dX2_watcher_63 : decode cX2_watcher 63 = .ok (.aload_n 0, 1) := by decide +kernel
theorem dX2_watcher_64 : decode cX2_watcher 64 = .ok (.dup, 1) := by decide +kernel
theorem dX2_watcher_65 : decode cX2_watcher 65 = .ok (.getfield 45, 3) := by decide +kernel
theorem dX2_watcher_68 : decode cX2_watcher 68 = .ok (.iconst 1, 1) := by decide +kernel
theorem dX2_watcher_69 : decode cX2_watcher 69 = .ok (.iadd, 1) := by decide +kernel
theorem dX2_watcher_70 : decode cX2_watcher 70 = .ok (.putfield 45, 3) := by decide +kernel
theorem dX2_watcher_73 : decode cX2_watcher 73 = .ok (.aload_n 0, 1) := by decide +kernel
theorem dX2_watcher_74 : decode cX2_watcher 74 = .ok (.getfield 45, 3) := by decide +kernel
theorem dX2_watcher_77 : decode cX2_watcher 77 = .ok (.iconst 1, 1) := by decide +kernel
theorem dX2_watcher_78 : decode cX2_watcher 78 = .ok (.isub, 1) := by decide +kernel
theorem dX2_watcher_79 : decode cX2_watcher 79 = .ok (.ireturn, 1) := by decide +kernel
set_option maxRecDepth 20000 in
theorem ggX2_creep_X2_isWatcher : GoodIn wsX2_creep wsX2_isWatcher := goodIn_r _ [8, 9, 10, 11, 7, 12, 70, 71, 72, 73, 74, 75, 76, 77, 78, 79, 80, 81, 82, 83] (by decide +kernel) (by decide +kernel)
set_option maxRecDepth 20000 in
theorem gX2_creep_X2_isWatcher : GoodIn wsX2_creep (wsV RX2 107 RX2 yX2_isWatcher wsX2_isWatcher) := goodIn_app (goodIn_of _ (by decide +kernel)) ggX2_creep_X2_isWatcher
set_option maxRecDepth 20000 in
theorem ggX2_creep_X2_isCell : GoodIn wsX2_creep wsX2_isCell := goodIn_r _ [15, 10, 11, 7, 12] (by decide +kernel) (by decide +kernel)
set_option maxRecDepth 20000 in
theorem gX2_creep_X2_isCell : GoodIn wsX2_creep (va_wsS RX2 87 yX2_isCell wsX2_isCell) := goodIn_app (goodIn_of _ (by decide +kernel)) ggX2_creep_X2_isCell
set_option maxRecDepth 20000 in
theorem ggX2_creep_X2_no : GoodIn wsX2_creep wsX2_no := goodIn_r _ [19, 1, 70, 71, 72, 73, 74, 75, 76, 77, 78, 79, 80, 81, 82, 83] (by decide +kernel) (by decide +kernel)
set_option maxRecDepth 20000 in
theorem gX2_creep_X2_no : GoodIn wsX2_creep (wsV RX2 93 RX2 yX2_no wsX2_no) := goodIn_app (goodIn_of _ (by decide +kernel)) ggX2_creep_X2_no
set_option maxRecDepth 20000 in
theorem ggX2_creep_X2_look : GoodIn wsX2_creep wsX2_look := goodIn_r _ [23, 24, 25, 26, 27, 28, 29, 30, 31, 32, 33, 34, 35, 7, 36, 37, 38, 39, 40, 41, 42, 43, 44, 45, 46, 47, 48, 49, 50, 51, 52, 53, 54, 55, 56, 57, 58, 59, 60, 70, 71, 72, 73, 74, 75, 76, 77, 78, 79, 80, 81, 82, 83] (by decide +kernel) (by decide +kernel)
set_option maxRecDepth 20000 in
theorem gX2_creep_X2_look : GoodIn wsX2_creep (wsV RX2 103 RX2 yX2_look wsX2_look) := goodIn_app (goodIn_of _ (by decide +kernel)) ggX2_creep_X2_look
set_option maxRecDepth 20000 in
theorem ggX2_creep_X2_stepsTo : GoodIn wsX2_creep wsX2_stepsTo := goodIn_r _ [64, 65, 66, 60, 24, 67, 68, 7, 69, 13, 14, 15, 10, 11, 12, 70, 71, 72, 73, 74, 75, 76, 77, 78, 79, 80, 81, 82, 83] (by decide +kernel) (by decide +kernel)
set_option maxRecDepth 20000 in
theorem gX2_creep_X2_stepsTo : GoodIn wsX2_creep (wsV RX2 110 RX2 yX2_stepsTo wsX2_stepsTo) := goodIn_app (goodIn_of _ (by decide +kernel)) ggX2_creep_X2_stepsTo
theorem dX2_creep_0 : decode cX2_creep 0 = .ok (.aload_n 0, 1) := by decide +kernel
theorem dX2_creep_1 : decode cX2_creep 1 = .ok (.iconst 0, 1) := by decide +kernel
theorem dX2_creep_2 : decode cX2_creep 2 = .ok (.putfield 34, 3) := by decide +kernel
theorem dX2_creep_5 : decode cX2_creep 5 = .ok (.aload_n 0, 1) := by decide +kernel
theorem dX2_creep_6 : decode cX2_creep 6 = .ok (.iload_n 1, 1) := by decide +kernel
theorem dX2_creep_7 : decode cX2_creep 7 = .ok (.invokevirtual 107, 3) := by decide +kernel
theorem dX2_creep_10 : decode cX2_creep 10 = .ok (.ifCond .eq 11, 3) := by decide +kernel
theorem dX2_creep_13 : decode cX2_creep 13 = .ok (.iload_n 2, 1) := by decide +kernel
theorem dX2_creep_14 : decode cX2_creep 14 = .ok (.iload_n 3, 1) := by decide +kernel
theorem dX2_creep_15 : decode cX2_creep 15 = .ok (.invokestatic 87, 3) := by decide +kernel
theorem dX2_creep_18 : decode cX2_creep 18 = .ok (.ifCond .ne 9, 3) := by decide +kernel
theorem dX2_creep_21 : decode cX2_creep 21 = .ok (.aload_n 0, 1) := by decide +kernel
theorem dX2_creep_22 : decode cX2_creep 22 = .ok (.iconst 1, 1) := by decide +kernel
theorem dX2_creep_23 : decode cX2_creep 23 = .ok (.invokevirtual 93, 3) := by decide +kernel
theorem dX2_creep_26 : decode cX2_creep 26 = .ok (.ireturn, 1) := by decide +kernel
theorem dX2_creep_27 : decode cX2_creep 27 = .ok (.aload_n 0, 1) := by decide +kernel
theorem dX2_creep_28 : decode cX2_creep 28 = .ok (.invokevirtual 103, 3) := by decide +kernel
theorem dX2_creep_31 : decode cX2_creep 31 = .ok (.pop, 1) := by decide +kernel
theorem dX2_creep_32 : decode cX2_creep 32 = .ok (.aload_n 0, 1) := by decide +kernel
theorem dX2_creep_33 : decode cX2_creep 33 = .ok (.aload_n 0, 1) := by decide +kernel
theorem dX2_creep_34 : decode cX2_creep 34 = .ok (.getfield 19, 3) := by decide +kernel
theorem dX2_creep_37 : decode cX2_creep 37 = .ok (.iload_n 1, 1) := by decide +kernel
theorem dX2_creep_38 : decode cX2_creep 38 = .ok (.iaload, 1) := by decide +kernel
theorem dX2_creep_39 : decode cX2_creep 39 = .ok (.bipush 12, 2) := by decide +kernel
theorem dX2_creep_41 : decode cX2_creep 41 = .ok (.iload_n 3, 1) := by decide +kernel
theorem dX2_creep_42 : decode cX2_creep 42 = .ok (.imul, 1) := by decide +kernel
theorem dX2_creep_43 : decode cX2_creep 43 = .ok (.iload_n 2, 1) := by decide +kernel
theorem dX2_creep_44 : decode cX2_creep 44 = .ok (.iadd, 1) := by decide +kernel
theorem dX2_creep_45 : decode cX2_creep 45 = .ok (.invokevirtual 110, 3) := by decide +kernel
theorem dX2_creep_48 : decode cX2_creep 48 = .ok (.istore 4, 2) := by decide +kernel
theorem dX2_creep_50 : decode cX2_creep 50 = .ok (.iload 4, 2) := by decide +kernel
theorem dX2_creep_52 : decode cX2_creep 52 = .ok (.iconst (-1), 1) := by decide +kernel
theorem dX2_creep_53 : decode cX2_creep 53 = .ok (.if_icmp .ne 9, 3) := by decide +kernel
theorem dX2_creep_56 : decode cX2_creep 56 = .ok (.aload_n 0, 1) := by decide +kernel
theorem dX2_creep_57 : decode cX2_creep 57 = .ok (.iconst 2, 1) := by decide +kernel
theorem dX2_creep_58 : decode cX2_creep 58 = .ok (.invokevirtual 93, 3) := by decide +kernel
theorem dX2_creep_61 : decode cX2_creep 61 = .ok (.ireturn, 1) := by decide +kernel
theorem dX2_creep_62 : decode cX2_creep 62 = .ok (.aload_n 0, 1) := by decide +kernel
theorem dX2_creep_63 : decode cX2_creep 63 = .ok (.getfield 19, 3) := by decide +kernel
theorem dX2_creep_66 : decode cX2_creep 66 = .ok (.iload_n 1, 1) := by decide +kernel
theorem dX2_creep_67 : decode cX2_creep 67 = .ok (.bipush 12, 2) := by decide +kernel
theorem dX2_creep_69 : decode cX2_creep 69 = .ok (.iload_n 3, 1) := by decide +kernel
theorem dX2_creep_70 : decode cX2_creep 70 = .ok (.imul, 1) := by decide +kernel
theorem dX2_creep_71 : decode cX2_creep 71 = .ok (.iload_n 2, 1) := by decide +kernel
theorem dX2_creep_72 : decode cX2_creep 72 = .ok (.iadd, 1) := by decide +kernel
theorem dX2_creep_73 : decode cX2_creep 73 = .ok (.iastore, 1) := by decide +kernel
theorem dX2_creep_74 : decode cX2_creep 74 = .ok (.aload_n 0, 1) := by decide +kernel
theorem dX2_creep_75 : decode cX2_creep 75 = .ok (.dup, 1) := by decide +kernel
theorem dX2_creep_76 : decode cX2_creep 76 = .ok (.getfield 113, 3) := by decide +kernel
theorem dX2_creep_79 : decode cX2_creep 79 = .ok (.iload 4, 2) := by decide +kernel
theorem dX2_creep_81 : decode cX2_creep 81 = .ok (.iadd, 1) := by decide +kernel
theorem dX2_creep_82 : decode cX2_creep 82 = .ok (.putfield 113, 3) := by decide +kernel
theorem dX2_creep_85 : decode cX2_creep 85 = .ok (.iload 4, 2) := by decide +kernel
theorem dX2_creep_87 : decode cX2_creep 87 = .ok (.ireturn, 1) := by decide +kernel
theorem dX2_watchersAt_0 : decode cX2_watchersAt 0 = .ok (.iconst 0, 1) := by decide +kernel
theorem dX2_watchersAt_1 : decode cX2_watchersAt 1 = .ok (.istore_n 2, 1) := by decide +kernel
theorem dX2_watchersAt_2 : decode cX2_watchersAt 2 = .ok (.iconst 0, 1) := by decide +kernel
theorem dX2_watchersAt_3 : decode cX2_watchersAt 3 = .ok (.istore_n 3, 1) := by decide +kernel
theorem dX2_watchersAt_4 : decode cX2_watchersAt 4 = .ok (.iload_n 3, 1) := by decide +kernel
theorem dX2_watchersAt_5 : decode cX2_watchersAt 5 = .ok (.aload_n 0, 1) := by decide +kernel
theorem dX2_watchersAt_6 : decode cX2_watchersAt 6 = .ok (.getfield 45, 3) := by decide +kernel
theorem dX2_watchersAt_9 : decode cX2_watchersAt 9 = .ok (.if_icmp .ge 27, 3) := by decide +kernel
theorem dX2_watchersAt_12 : decode cX2_watchersAt 12 = .ok (.iload_n 2, 1) := by decide +kernel
theorem dX2_watchersAt_13 : decode cX2_watchersAt 13 = .ok (.aload_n 0, 1) := by decide +kernel
theorem dX2_watchersAt_14 : decode cX2_watchersAt 14 = .ok (.getfield 19, 3) := by decide +kernel
theorem dX2_watchersAt_17 : decode cX2_watchersAt 17 = .ok (.iload_n 3, 1) := by decide +kernel
theorem dX2_watchersAt_18 : decode cX2_watchersAt 18 = .ok (.iaload, 1) := by decide +kernel
theorem dX2_watchersAt_19 : decode cX2_watchersAt 19 = .ok (.iload_n 1, 1) := by decide +kernel
theorem dX2_watchersAt_20 : decode cX2_watchersAt 20 = .ok (.if_icmp .ne 7, 3) := by decide +kernel
theorem dX2_watchersAt_23 : decode cX2_watchersAt 23 = .ok (.iconst 1, 1) := by decide +kernel
theorem dX2_watchersAt_24 : decode cX2_watchersAt 24 = .ok (.goto 4, 3) := by decide +kernel
theorem dX2_watchersAt_27 : decode cX2_watchersAt 27 = .ok (.iconst 0, 1) := by decide +kernel
theorem dX2_watchersAt_28 : decode cX2_watchersAt 28 = .ok (.iadd, 1) := by decide +kernel
theorem dX2_watchersAt_29 : decode cX2_watchersAt 29 = .ok (.istore_n 2, 1) := by decide +kernel
theorem dX2_watchersAt_30 : decode cX2_watchersAt 30 = .ok (.iinc 3 1, 3) := by decide +kernel
theorem dX2_watchersAt_33 : decode cX2_watchersAt 33 = .ok (.goto (-29), 3) := by decide +kernel
theorem dX2_watchersAt_36 : decode cX2_watchersAt 36 = .ok (.iload_n 2, 1) := by decide +kernel
theorem dX2_watchersAt_37 : decode cX2_watchersAt 37 = .ok (.ireturn, 1) := by decide +kernel
set_option maxRecDepth 20000 in
theorem ggX2_watchersOf_X2_seesCell : GoodIn wsX2_watchersOf wsX2_seesCell := goodIn_r _ [6, 7, 8, 9, 10, 11, 5, 12, 13, 14, 15, 16, 17, 18, 19, 20, 21, 22, 23, 24, 25, 26, 27, 28, 29, 30, 31, 32, 33, 34, 35, 36, 37, 38, 39, 40, 41] (by decide +kernel) (by decide +kernel)
set_option maxRecDepth 20000 in
theorem gX2_watchersOf_X2_seesCell : GoodIn wsX2_watchersOf (wsV RX2 84 RX2 yX2_seesCell wsX2_seesCell) := goodIn_app (goodIn_of _ (by decide +kernel)) ggX2_watchersOf_X2_seesCell
theorem dX2_watchersOf_0 : decode cX2_watchersOf 0 = .ok (.iconst 0, 1) := by decide +kernel
theorem dX2_watchersOf_1 : decode cX2_watchersOf 1 = .ok (.istore_n 2, 1) := by decide +kernel
theorem dX2_watchersOf_2 : decode cX2_watchersOf 2 = .ok (.iconst 0, 1) := by decide +kernel
theorem dX2_watchersOf_3 : decode cX2_watchersOf 3 = .ok (.istore_n 3, 1) := by decide +kernel
theorem dX2_watchersOf_4 : decode cX2_watchersOf 4 = .ok (.iload_n 3, 1) := by decide +kernel
theorem dX2_watchersOf_5 : decode cX2_watchersOf 5 = .ok (.aload_n 0, 1) := by decide +kernel
theorem dX2_watchersOf_6 : decode cX2_watchersOf 6 = .ok (.getfield 45, 3) := by decide +kernel
theorem dX2_watchersOf_9 : decode cX2_watchersOf 9 = .ok (.if_icmp .ge 26, 3) := by decide +kernel
theorem dX2_watchersOf_12 : decode cX2_watchersOf 12 = .ok (.iload_n 2, 1) := by decide +kernel
theorem dX2_watchersOf_13 : decode cX2_watchersOf 13 = .ok (.aload_n 0, 1) := by decide +kernel
theorem dX2_watchersOf_14 : decode cX2_watchersOf 14 = .ok (.iload_n 3, 1) := by decide +kernel
theorem dX2_watchersOf_15 : decode cX2_watchersOf 15 = .ok (.iload_n 1, 1) := by decide +kernel
theorem dX2_watchersOf_16 : decode cX2_watchersOf 16 = .ok (.invokevirtual 84, 3) := by decide +kernel
theorem dX2_watchersOf_19 : decode cX2_watchersOf 19 = .ok (.ifCond .eq 7, 3) := by decide +kernel
theorem dX2_watchersOf_22 : decode cX2_watchersOf 22 = .ok (.iconst 1, 1) := by decide +kernel
theorem dX2_watchersOf_23 : decode cX2_watchersOf 23 = .ok (.goto 4, 3) := by decide +kernel
theorem dX2_watchersOf_26 : decode cX2_watchersOf 26 = .ok (.iconst 0, 1) := by decide +kernel
theorem dX2_watchersOf_27 : decode cX2_watchersOf 27 = .ok (.iadd, 1) := by decide +kernel
theorem dX2_watchersOf_28 : decode cX2_watchersOf 28 = .ok (.istore_n 2, 1) := by decide +kernel
theorem dX2_watchersOf_29 : decode cX2_watchersOf 29 = .ok (.iinc 3 1, 3) := by decide +kernel
theorem dX2_watchersOf_32 : decode cX2_watchersOf 32 = .ok (.goto (-28), 3) := by decide +kernel
theorem dX2_watchersOf_35 : decode cX2_watchersOf 35 = .ok (.iload_n 2, 1) := by decide +kernel
theorem dX2_watchersOf_36 : decode cX2_watchersOf 36 = .ok (.ireturn, 1) := by decide +kernel
set_option maxRecDepth 20000 in
theorem ggX2_cellTold_X2_watchersAt : GoodIn wsX2_cellTold wsX2_watchersAt := goodIn_r _ [8, 9, 10, 37, 38, 39, 40, 41, 42, 43, 44, 45, 46, 47, 48, 49, 50] (by decide +kernel) (by decide +kernel)
set_option maxRecDepth 20000 in
theorem gX2_cellTold_X2_watchersAt : GoodIn wsX2_cellTold (wsV RX2 116 RX2 yX2_watchersAt wsX2_watchersAt) := goodIn_app (goodIn_of _ (by decide +kernel)) ggX2_cellTold_X2_watchersAt
set_option maxRecDepth 20000 in
theorem ggX2_cellTold_X2_watchersOf : GoodIn wsX2_cellTold wsX2_watchersOf := goodIn_r _ [14, 9, 15, 16, 17, 7, 18, 3, 10, 19, 20, 21, 22, 23, 24, 25, 26, 27, 28, 29, 30, 31, 32, 33, 34, 35, 36, 1, 37, 38, 39, 40, 41, 42, 43, 44, 45, 46, 47, 48, 49, 50] (by decide +kernel) (by decide +kernel)
set_option maxRecDepth 20000 in
theorem gX2_cellTold_X2_watchersOf : GoodIn wsX2_cellTold (wsV RX2 119 RX2 yX2_watchersOf wsX2_watchersOf) := goodIn_app (goodIn_of _ (by decide +kernel)) ggX2_cellTold_X2_watchersOf
theorem dX2_cellTold_0 : decode cX2_cellTold 0 = .ok (.iload_n 2, 1) := by decide +kernel
theorem dX2_cellTold_1 : decode cX2_cellTold 1 = .ok (.ifCond .ne 12, 3) := by decide +kernel
theorem dX2_cellTold_4 : decode cX2_cellTold 4 = .ok (.aload_n 0, 1) := by decide +kernel
theorem dX2_cellTold_5 : decode cX2_cellTold 5 = .ok (.getfield 9, 3) := by decide +kernel
theorem dX2_cellTold_8 : decode cX2_cellTold 8 = .ok (.iload_n 1, 1) := by decide +kernel
theorem dX2_cellTold_9 : decode cX2_cellTold 9 = .ok (.iaload, 1) := by decide +kernel
theorem dX2_cellTold_10 : decode cX2_cellTold 10 = .ok (.goto 49, 3) := by decide +kernel
theorem dX2_cellTold_13 : decode cX2_cellTold 13 = .ok (.iload_n 2, 1) := by decide +kernel
theorem dX2_cellTold_14 : decode cX2_cellTold 14 = .ok (.iconst 1, 1) := by decide +kernel
theorem dX2_cellTold_15 : decode cX2_cellTold 15 = .ok (.if_icmp .ne 12, 3) := by decide +kernel
theorem dX2_cellTold_18 : decode cX2_cellTold 18 = .ok (.aload_n 0, 1) := by decide +kernel
theorem dX2_cellTold_19 : decode cX2_cellTold 19 = .ok (.getfield 25, 3) := by decide +kernel
theorem dX2_cellTold_22 : decode cX2_cellTold 22 = .ok (.iload_n 1, 1) := by decide +kernel
theorem dX2_cellTold_23 : decode cX2_cellTold 23 = .ok (.iaload, 1) := by decide +kernel
theorem dX2_cellTold_24 : decode cX2_cellTold 24 = .ok (.goto 35, 3) := by decide +kernel
theorem dX2_cellTold_27 : decode cX2_cellTold 27 = .ok (.iload_n 2, 1) := by decide +kernel
theorem dX2_cellTold_28 : decode cX2_cellTold 28 = .ok (.iconst 2, 1) := by decide +kernel
theorem dX2_cellTold_29 : decode cX2_cellTold 29 = .ok (.if_icmp .ne 12, 3) := by decide +kernel
theorem dX2_cellTold_32 : decode cX2_cellTold 32 = .ok (.aload_n 0, 1) := by decide +kernel
theorem dX2_cellTold_33 : decode cX2_cellTold 33 = .ok (.getfield 22, 3) := by decide +kernel
theorem dX2_cellTold_36 : decode cX2_cellTold 36 = .ok (.iload_n 1, 1) := by decide +kernel
theorem dX2_cellTold_37 : decode cX2_cellTold 37 = .ok (.iaload, 1) := by decide +kernel
theorem dX2_cellTold_38 : decode cX2_cellTold 38 = .ok (.goto 21, 3) := by decide +kernel
theorem dX2_cellTold_41 : decode cX2_cellTold 41 = .ok (.iload_n 2, 1) := by decide +kernel
theorem dX2_cellTold_42 : decode cX2_cellTold 42 = .ok (.iconst 3, 1) := by decide +kernel
theorem dX2_cellTold_43 : decode cX2_cellTold 43 = .ok (.if_icmp .ne 11, 3) := by decide +kernel
theorem dX2_cellTold_46 : decode cX2_cellTold 46 = .ok (.aload_n 0, 1) := by decide +kernel
theorem dX2_cellTold_47 : decode cX2_cellTold 47 = .ok (.iload_n 1, 1) := by decide +kernel
theorem dX2_cellTold_48 : decode cX2_cellTold 48 = .ok (.invokevirtual 116, 3) := by decide +kernel
theorem dX2_cellTold_51 : decode cX2_cellTold 51 = .ok (.goto 8, 3) := by decide +kernel
theorem dX2_cellTold_54 : decode cX2_cellTold 54 = .ok (.aload_n 0, 1) := by decide +kernel
theorem dX2_cellTold_55 : decode cX2_cellTold 55 = .ok (.iload_n 1, 1) := by decide +kernel
theorem dX2_cellTold_56 : decode cX2_cellTold 56 = .ok (.invokevirtual 119, 3) := by decide +kernel
theorem dX2_cellTold_59 : decode cX2_cellTold 59 = .ok (.ireturn, 1) := by decide +kernel
set_option maxRecDepth 20000 in
theorem ggX2_told_X2_isCell : GoodIn wsX2_told wsX2_isCell := goodIn_r _ [5, 6, 7, 4, 8] (by decide +kernel) (by decide +kernel)
set_option maxRecDepth 20000 in
theorem gX2_told_X2_isCell : GoodIn wsX2_told (va_wsS RX2 87 yX2_isCell wsX2_isCell) := goodIn_app (goodIn_of _ (by decide +kernel)) ggX2_told_X2_isCell
set_option maxRecDepth 20000 in
theorem ggX2_told_X2_isIn : GoodIn wsX2_told wsX2_isIn := goodIn_r _ [8] (by decide +kernel) (by decide +kernel)
set_option maxRecDepth 20000 in
theorem gX2_told_X2_isIn : GoodIn wsX2_told (va_wsS RX2 38 yX2_isIn wsX2_isIn) := goodIn_app (goodIn_of _ (by decide +kernel)) ggX2_told_X2_isIn
set_option maxRecDepth 20000 in
theorem ggX2_told_X2_no : GoodIn wsX2_told wsX2_no := goodIn_r _ [12, 1, 72, 73, 74, 75, 76, 77, 78, 79, 80, 81, 82, 83, 84, 85] (by decide +kernel) (by decide +kernel)
set_option maxRecDepth 20000 in
theorem gX2_told_X2_no : GoodIn wsX2_told (wsV RX2 93 RX2 yX2_no wsX2_no) := goodIn_app (goodIn_of _ (by decide +kernel)) ggX2_told_X2_no
set_option maxRecDepth 20000 in
theorem ggX2_told_X2_look : GoodIn wsX2_told wsX2_look := goodIn_r _ [16, 17, 18, 19, 20, 21, 22, 23, 24, 25, 26, 27, 28, 4, 29, 30, 31, 32, 33, 34, 35, 36, 37, 38, 39, 40, 41, 42, 43, 44, 45, 46, 47, 48, 49, 50, 51, 52, 53, 72, 73, 74, 75, 76, 77, 78, 79, 80, 81, 82, 83, 84, 85] (by decide +kernel) (by decide +kernel)
set_option maxRecDepth 20000 in
theorem gX2_told_X2_look : GoodIn wsX2_told (wsV RX2 103 RX2 yX2_look wsX2_look) := goodIn_app (goodIn_of _ (by decide +kernel)) ggX2_told_X2_look
set_option maxRecDepth 20000 in
theorem ggX2_told_X2_cellTold : GoodIn wsX2_told wsX2_cellTold := goodIn_r _ [57, 53, 18, 17, 58, 59, 60, 4, 61, 62, 63, 64, 65, 66, 67, 68, 69, 70, 71, 39, 40, 41, 42, 43, 44, 45, 46, 47, 33, 34, 24, 35, 48, 49, 50, 51, 52, 72, 73, 74, 75, 76, 77, 78, 79, 80, 81, 82, 83, 84, 85] (by decide +kernel) (by decide +kernel)
set_option maxRecDepth 20000 in
theorem gX2_told_X2_cellTold : GoodIn wsX2_told (wsV RX2 122 RX2 yX2_cellTold wsX2_cellTold) := goodIn_app (goodIn_of _ (by decide +kernel)) ggX2_told_X2_cellTold
theorem dX2_told_0 : decode cX2_told 0 = .ok (.aload_n 0, 1) := by decide +kernel
theorem dX2_told_1 : decode cX2_told 1 = .ok (.iconst 0, 1) := by decide +kernel
theorem dX2_told_2 : decode cX2_told 2 = .ok (.putfield 34, 3) := by decide +kernel
theorem dX2_told_5 : decode cX2_told 5 = .ok (.iload_n 1, 1) := by decide +kernel
theorem dX2_told_6 : decode cX2_told 6 = .ok (.iload_n 2, 1) := by decide +kernel
theorem dX2_told_7 : decode cX2_told 7 = .ok (.invokestatic 87, 3) := by decide +kernel
theorem dX2_told_10 : decode cX2_told 10 = .ok (.ifCond .eq 12, 3) := by decide +kernel
theorem dX2_told_13 : decode cX2_told 13 = .ok (.iload_n 3, 1) := by decide +kernel
theorem dX2_told_14 : decode cX2_told 14 = .ok (.iconst 0, 1) := by decide +kernel
theorem dX2_told_15 : decode cX2_told 15 = .ok (.iconst 4, 1) := by decide +kernel
theorem dX2_told_16 : decode cX2_told 16 = .ok (.invokestatic 38, 3) := by decide +kernel
theorem dX2_told_19 : decode cX2_told 19 = .ok (.ifCond .ne 9, 3) := by decide +kernel
theorem dX2_told_22 : decode cX2_told 22 = .ok (.aload_n 0, 1) := by decide +kernel
theorem dX2_told_23 : decode cX2_told 23 = .ok (.iconst 1, 1) := by decide +kernel
theorem dX2_told_24 : decode cX2_told 24 = .ok (.invokevirtual 93, 3) := by decide +kernel
theorem dX2_told_27 : decode cX2_told 27 = .ok (.ireturn, 1) := by decide +kernel
theorem dX2_told_28 : decode cX2_told 28 = .ok (.aload_n 0, 1) := by decide +kernel
theorem dX2_told_29 : decode cX2_told 29 = .ok (.invokevirtual 103, 3) := by decide +kernel
theorem dX2_told_32 : decode cX2_told 32 = .ok (.pop, 1) := by decide +kernel
theorem dX2_told_33 : decode cX2_told 33 = .ok (.aload_n 0, 1) := by decide +kernel
theorem dX2_told_34 : decode cX2_told 34 = .ok (.bipush 12, 2) := by decide +kernel
theorem dX2_told_36 : decode cX2_told 36 = .ok (.iload_n 2, 1) := by decide +kernel
theorem dX2_told_37 : decode cX2_told 37 = .ok (.imul, 1) := by decide +kernel
theorem dX2_told_38 : decode cX2_told 38 = .ok (.iload_n 1, 1) := by decide +kernel
theorem dX2_told_39 : decode cX2_told 39 = .ok (.iadd, 1) := by decide +kernel
theorem dX2_told_40 : decode cX2_told 40 = .ok (.iload_n 3, 1) := by decide +kernel
theorem dX2_told_41 : decode cX2_told 41 = .ok (.invokevirtual 122, 3) := by decide +kernel
theorem dX2_told_44 : decode cX2_told 44 = .ok (.ireturn, 1) := by decide +kernel
set_option maxRecDepth 20000 in
theorem ggX2_litBy_X2_isLitBy : GoodIn wsX2_litBy wsX2_isLitBy := goodIn_r _ [6, 7, 8, 9, 10, 5, 11, 12, 13, 14, 15, 16, 17, 18, 19, 20, 21, 22, 23, 24, 25, 26, 27, 28, 29, 30, 31, 32, 33, 34, 35, 36, 37, 38, 39, 40, 41, 42, 43, 44, 45, 46, 47] (by decide +kernel) (by decide +kernel)
set_option maxRecDepth 20000 in
theorem gX2_litBy_X2_isLitBy : GoodIn wsX2_litBy (wsV RX2 77 RX2 yX2_isLitBy wsX2_isLitBy) := goodIn_app (goodIn_of _ (by decide +kernel)) ggX2_litBy_X2_isLitBy
theorem dX2_litBy_0 : decode cX2_litBy 0 = .ok (.iconst 0, 1) := by decide +kernel
theorem dX2_litBy_1 : decode cX2_litBy 1 = .ok (.istore_n 3, 1) := by decide +kernel
theorem dX2_litBy_2 : decode cX2_litBy 2 = .ok (.iconst 0, 1) := by decide +kernel
theorem dX2_litBy_3 : decode cX2_litBy 3 = .ok (.istore 4, 2) := by decide +kernel
theorem dX2_litBy_5 : decode cX2_litBy 5 = .ok (.iload 4, 2) := by decide +kernel
theorem dX2_litBy_7 : decode cX2_litBy 7 = .ok (.sipush 144, 3) := by decide +kernel
theorem dX2_litBy_10 : decode cX2_litBy 10 = .ok (.if_icmp .ge 42, 3) := by decide +kernel
theorem dX2_litBy_13 : decode cX2_litBy 13 = .ok (.iload_n 3, 1) := by decide +kernel
theorem dX2_litBy_14 : decode cX2_litBy 14 = .ok (.aload_n 0, 1) := by decide +kernel
theorem dX2_litBy_15 : decode cX2_litBy 15 = .ok (.iload_n 1, 1) := by decide +kernel
theorem dX2_litBy_16 : decode cX2_litBy 16 = .ok (.iload 4, 2) := by decide +kernel
theorem dX2_litBy_18 : decode cX2_litBy 18 = .ok (.invokevirtual 77, 3) := by decide +kernel
theorem dX2_litBy_21 : decode cX2_litBy 21 = .ok (.ifCond .eq 22, 3) := by decide +kernel
theorem dX2_litBy_24 : decode cX2_litBy 24 = .ok (.iload_n 2, 1) := by decide +kernel
theorem dX2_litBy_25 : decode cX2_litBy 25 = .ok (.ifCond .eq 14, 3) := by decide +kernel
theorem dX2_litBy_28 : decode cX2_litBy 28 = .ok (.aload_n 0, 1) := by decide +kernel
theorem dX2_litBy_29 : decode cX2_litBy 29 = .ok (.getfield 22, 3) := by decide +kernel
theorem dX2_litBy_32 : decode cX2_litBy 32 = .ok (.iload 4, 2) := by decide +kernel
theorem dX2_litBy_34 : decode cX2_litBy 34 = .ok (.iaload, 1) := by decide +kernel
theorem dX2_litBy_35 : decode cX2_litBy 35 = .ok (.iconst 1, 1) := by decide +kernel
theorem dX2_litBy_36 : decode cX2_litBy 36 = .ok (.if_icmp .ne 7, 3) := by decide +kernel
theorem dX2_litBy_39 : decode cX2_litBy 39 = .ok (.iconst 1, 1) := by decide +kernel
theorem dX2_litBy_40 : decode cX2_litBy 40 = .ok (.goto 4, 3) := by decide +kernel
theorem dX2_litBy_43 : decode cX2_litBy 43 = .ok (.iconst 0, 1) := by decide +kernel
theorem dX2_litBy_44 : decode cX2_litBy 44 = .ok (.iadd, 1) := by decide +kernel
theorem dX2_litBy_45 : decode cX2_litBy 45 = .ok (.istore_n 3, 1) := by decide +kernel
theorem dX2_litBy_46 : decode cX2_litBy 46 = .ok (.iinc 4 1, 3) := by decide +kernel
