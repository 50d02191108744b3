theorem dX2_litBy_49 : decode cX2_litBy 49 = .ok (.goto (-44), 3) := by decide +kernel
theorem dX2_litBy_52 : decode cX2_litBy 52 = .ok (.iload_n 3, 1) := by decide +kernel
theorem dX2_litBy_53 : decode cX2_litBy 53 = .ok (.ireturn, 1) := by decide +kernel
set_option maxRecDepth 20000 in
theorem ggX2_lampTold_X2_litBy : GoodIn wsX2_lampTold wsX2_litBy := goodIn_r _ [7, 8, 9, 10, 11, 6, 12, 1, 2, 13, 14, 15, 16, 17, 18, 19, 20, 21, 22, 23, 24, 25, 26, 27, 28, 29, 30, 31, 32, 33, 34, 35, 36, 37, 38, 39, 40, 41, 42, 43, 44, 45, 46, 47, 48, 49, 50, 51] (by decide +kernel) (by decide +kernel)
set_option maxRecDepth 20000 in
theorem gX2_lampTold_X2_litBy : GoodIn wsX2_lampTold (wsV RX2 125 RX2 yX2_litBy wsX2_litBy) := goodIn_app (goodIn_of _ (by decide +kernel)) ggX2_lampTold_X2_litBy
theorem dX2_lampTold_0 : decode cX2_lampTold 0 = .ok (.iload_n 2, 1) := by decide +kernel
theorem dX2_lampTold_1 : decode cX2_lampTold 1 = .ok (.ifCond .ne 12, 3) := by decide +kernel
theorem dX2_lampTold_4 : decode cX2_lampTold 4 = .ok (.aload_n 0, 1) := by decide +kernel
theorem dX2_lampTold_5 : decode cX2_lampTold 5 = .ok (.getfield 13, 3) := by decide +kernel
theorem dX2_lampTold_8 : decode cX2_lampTold 8 = .ok (.iload_n 1, 1) := by decide +kernel
theorem dX2_lampTold_9 : decode cX2_lampTold 9 = .ok (.iaload, 1) := by decide +kernel
theorem dX2_lampTold_10 : decode cX2_lampTold 10 = .ok (.goto 32, 3) := by decide +kernel
theorem dX2_lampTold_13 : decode cX2_lampTold 13 = .ok (.iload_n 2, 1) := by decide +kernel
theorem dX2_lampTold_14 : decode cX2_lampTold 14 = .ok (.iconst 1, 1) := by decide +kernel
theorem dX2_lampTold_15 : decode cX2_lampTold 15 = .ok (.if_icmp .ne 12, 3) := by decide +kernel
theorem dX2_lampTold_18 : decode cX2_lampTold 18 = .ok (.aload_n 0, 1) := by decide +kernel
theorem dX2_lampTold_19 : decode cX2_lampTold 19 = .ok (.getfield 16, 3) := by decide +kernel
theorem dX2_lampTold_22 : decode cX2_lampTold 22 = .ok (.iload_n 1, 1) := by decide +kernel
theorem dX2_lampTold_23 : decode cX2_lampTold 23 = .ok (.iaload, 1) := by decide +kernel
theorem dX2_lampTold_24 : decode cX2_lampTold 24 = .ok (.goto 18, 3) := by decide +kernel
theorem dX2_lampTold_27 : decode cX2_lampTold 27 = .ok (.aload_n 0, 1) := by decide +kernel
theorem dX2_lampTold_28 : decode cX2_lampTold 28 = .ok (.iload_n 1, 1) := by decide +kernel
theorem dX2_lampTold_29 : decode cX2_lampTold 29 = .ok (.iload_n 2, 1) := by decide +kernel
theorem dX2_lampTold_30 : decode cX2_lampTold 30 = .ok (.iconst 3, 1) := by decide +kernel
theorem dX2_lampTold_31 : decode cX2_lampTold 31 = .ok (.if_icmp .ne 7, 3) := by decide +kernel
theorem dX2_lampTold_34 : decode cX2_lampTold 34 = .ok (.iconst 1, 1) := by decide +kernel
theorem dX2_lampTold_35 : decode cX2_lampTold 35 = .ok (.goto 4, 3) := by decide +kernel
theorem dX2_lampTold_38 : decode cX2_lampTold 38 = .ok (.iconst 0, 1) := by decide +kernel
theorem dX2_lampTold_39 : decode cX2_lampTold 39 = .ok (.invokevirtual 125, 3) := by decide +kernel
theorem dX2_lampTold_42 : decode cX2_lampTold 42 = .ok (.ireturn, 1) := by decide +kernel
set_option maxRecDepth 20000 in
theorem ggX2_about_X2_isLamp : GoodIn wsX2_about wsX2_isLamp := goodIn_r _ [6, 7, 8, 9, 5, 10, 63, 64, 65, 66, 67, 68, 69, 70, 71, 72, 73, 74, 75, 76] (by decide +kernel) (by decide +kernel)
set_option maxRecDepth 20000 in
theorem gX2_about_X2_isLamp : GoodIn wsX2_about (wsV RX2 99 RX2 yX2_isLamp wsX2_isLamp) := goodIn_app (goodIn_of _ (by decide +kernel)) ggX2_about_X2_isLamp
set_option maxRecDepth 20000 in
theorem ggX2_about_X2_isIn : GoodIn wsX2_about wsX2_isIn := goodIn_r _ [10] (by decide +kernel) (by decide +kernel)
set_option maxRecDepth 20000 in
theorem gX2_about_X2_isIn : GoodIn wsX2_about (va_wsS RX2 38 yX2_isIn wsX2_isIn) := goodIn_app (goodIn_of _ (by decide +kernel)) ggX2_about_X2_isIn
set_option maxRecDepth 20000 in
theorem ggX2_about_X2_no : GoodIn wsX2_about wsX2_no := goodIn_r _ [14, 1, 63, 64, 65, 66, 67, 68, 69, 70, 71, 72, 73, 74, 75, 76] (by decide +kernel) (by decide +kernel)
set_option maxRecDepth 20000 in
theorem gX2_about_X2_no : GoodIn wsX2_about (wsV RX2 93 RX2 yX2_no wsX2_no) := goodIn_app (goodIn_of _ (by decide +kernel)) ggX2_about_X2_no
set_option maxRecDepth 20000 in
theorem ggX2_about_X2_look : GoodIn wsX2_about wsX2_look := goodIn_r _ [18, 19, 20, 7, 21, 22, 23, 24, 25, 26, 27, 28, 29, 5, 30, 31, 32, 33, 34, 35, 36, 37, 38, 39, 40, 41, 42, 43, 44, 45, 46, 47, 48, 49, 50, 51, 52, 53, 54, 63, 64, 65, 66, 67, 68, 69, 70, 71, 72, 73, 74, 75, 76] (by decide +kernel) (by decide +kernel)
set_option maxRecDepth 20000 in
theorem gX2_about_X2_look : GoodIn wsX2_about (wsV RX2 103 RX2 yX2_look wsX2_look) := goodIn_app (goodIn_of _ (by decide +kernel)) ggX2_about_X2_look
set_option maxRecDepth 20000 in
theorem ggX2_about_X2_lampTold : GoodIn wsX2_about wsX2_lampTold := goodIn_r _ [58, 22, 21, 59, 60, 61, 5, 62, 19, 27, 28, 29, 30, 31, 32, 33, 34, 35, 25, 36, 37, 38, 39, 40, 41, 42, 43, 44, 45, 46, 47, 48, 49, 50, 51, 52, 53, 54, 63, 64, 65, 66, 67, 68, 69, 70, 71, 72, 73, 74, 75, 76] (by decide +kernel) (by decide +kernel)
set_option maxRecDepth 20000 in
theorem gX2_about_X2_lampTold : GoodIn wsX2_about (wsV RX2 129 RX2 yX2_lampTold wsX2_lampTold) := goodIn_app (goodIn_of _ (by decide +kernel)) ggX2_about_X2_lampTold
theorem dX2_about_0 : decode cX2_about 0 = .ok (.aload_n 0, 1) := by decide +kernel
theorem dX2_about_1 : decode cX2_about 1 = .ok (.iconst 0, 1) := by decide +kernel
theorem dX2_about_2 : decode cX2_about 2 = .ok (.putfield 34, 3) := by decide +kernel
theorem dX2_about_5 : decode cX2_about 5 = .ok (.aload_n 0, 1) := by decide +kernel
theorem dX2_about_6 : decode cX2_about 6 = .ok (.iload_n 1, 1) := by decide +kernel
theorem dX2_about_7 : decode cX2_about 7 = .ok (.invokevirtual 99, 3) := by decide +kernel
theorem dX2_about_10 : decode cX2_about 10 = .ok (.ifCond .eq 12, 3) := by decide +kernel
theorem dX2_about_13 : decode cX2_about 13 = .ok (.iload_n 2, 1) := by decide +kernel
theorem dX2_about_14 : decode cX2_about 14 = .ok (.iconst 0, 1) := by decide +kernel
theorem dX2_about_15 : decode cX2_about 15 = .ok (.iconst 3, 1) := by decide +kernel
theorem dX2_about_16 : decode cX2_about 16 = .ok (.invokestatic 38, 3) := by decide +kernel
theorem dX2_about_19 : decode cX2_about 19 = .ok (.ifCond .ne 9, 3) := by decide +kernel
theorem dX2_about_22 : decode cX2_about 22 = .ok (.aload_n 0, 1) := by decide +kernel
theorem dX2_about_23 : decode cX2_about 23 = .ok (.iconst 1, 1) := by decide +kernel
theorem dX2_about_24 : decode cX2_about 24 = .ok (.invokevirtual 93, 3) := by decide +kernel
theorem dX2_about_27 : decode cX2_about 27 = .ok (.ireturn, 1) := by decide +kernel
theorem dX2_about_28 : decode cX2_about 28 = .ok (.aload_n 0, 1) := by decide +kernel
theorem dX2_about_29 : decode cX2_about 29 = .ok (.invokevirtual 103, 3) := by decide +kernel
theorem dX2_about_32 : decode cX2_about 32 = .ok (.pop, 1) := by decide +kernel
theorem dX2_about_33 : decode cX2_about 33 = .ok (.aload_n 0, 1) := by decide +kernel
theorem dX2_about_34 : decode cX2_about 34 = .ok (.iload_n 1, 1) := by decide +kernel
theorem dX2_about_35 : decode cX2_about 35 = .ok (.iload_n 2, 1) := by decide +kernel
theorem dX2_about_36 : decode cX2_about 36 = .ok (.invokevirtual 129, 3) := by decide +kernel
theorem dX2_about_39 : decode cX2_about 39 = .ok (.ireturn, 1) := by decide +kernel
set_option maxRecDepth 20000 in
theorem ggX2_seatTold_X2_seesCell : GoodIn wsX2_seatTold wsX2_seesCell := goodIn_r _ [8, 2, 1, 9, 10, 11, 7, 12, 13, 14, 15, 16, 17, 18, 19, 20, 21, 22, 23, 24, 25, 26, 27, 32, 33, 34, 35, 36, 37, 38, 39, 40, 41, 42, 43, 44, 45] (by decide +kernel) (by decide +kernel)
set_option maxRecDepth 20000 in
theorem gX2_seatTold_X2_seesCell : GoodIn wsX2_seatTold (wsV RX2 84 RX2 yX2_seesCell wsX2_seesCell) := goodIn_app (goodIn_of _ (by decide +kernel)) ggX2_seatTold_X2_seesCell
set_option maxRecDepth 20000 in
theorem ggX2_seatTold_X2_isHidden : GoodIn wsX2_seatTold wsX2_isHidden := goodIn_r _ [31, 3, 1, 4, 5, 6, 7, 8, 2, 9, 10, 11, 12, 13, 14, 15, 16, 17, 18, 19, 20, 21, 22, 23, 24, 25, 26, 27, 32, 33, 34, 35, 36, 37, 38, 39, 40, 41, 42, 43, 44, 45] (by decide +kernel) (by decide +kernel)
set_option maxRecDepth 20000 in
theorem gX2_seatTold_X2_isHidden : GoodIn wsX2_seatTold (wsV RX2 132 RX2 yX2_isHidden wsX2_isHidden) := goodIn_app (goodIn_of _ (by decide +kernel)) ggX2_seatTold_X2_isHidden
theorem dX2_seatTold_0 : decode cX2_seatTold 0 = .ok (.iconst 0, 1) := by decide +kernel
theorem dX2_seatTold_1 : decode cX2_seatTold 1 = .ok (.istore_n 3, 1) := by decide +kernel
theorem dX2_seatTold_2 : decode cX2_seatTold 2 = .ok (.iload_n 2, 1) := by decide +kernel
theorem dX2_seatTold_3 : decode cX2_seatTold 3 = .ok (.tableswitch 107 0 3 #[29, 36, 73, 87], 29) := by decide +kernel
theorem dX2_seatTold_32 : decode cX2_seatTold 32 = .ok (.aload_n 0, 1) := by decide +kernel
theorem dX2_seatTold_33 : decode cX2_seatTold 33 = .ok (.getfield 19, 3) := by decide +kernel
theorem dX2_seatTold_36 : decode cX2_seatTold 36 = .ok (.iload_n 1, 1) := by decide +kernel
theorem dX2_seatTold_37 : decode cX2_seatTold 37 = .ok (.iaload, 1) := by decide +kernel
theorem dX2_seatTold_38 : decode cX2_seatTold 38 = .ok (.ireturn, 1) := by decide +kernel
theorem dX2_seatTold_39 : decode cX2_seatTold 39 = .ok (.iconst 0, 1) := by decide +kernel
theorem dX2_seatTold_40 : decode cX2_seatTold 40 = .ok (.istore 4, 2) := by decide +kernel
theorem dX2_seatTold_42 : decode cX2_seatTold 42 = .ok (.iload 4, 2) := by decide +kernel
theorem dX2_seatTold_44 : decode cX2_seatTold 44 = .ok (.sipush 144, 3) := by decide +kernel
theorem dX2_seatTold_47 : decode cX2_seatTold 47 = .ok (.if_icmp .ge 27, 3) := by decide +kernel
theorem dX2_seatTold_50 : decode cX2_seatTold 50 = .ok (.iload_n 3, 1) := by decide +kernel
theorem dX2_seatTold_51 : decode cX2_seatTold 51 = .ok (.aload_n 0, 1) := by decide +kernel
theorem dX2_seatTold_52 : decode cX2_seatTold 52 = .ok (.iload_n 1, 1) := by decide +kernel
theorem dX2_seatTold_53 : decode cX2_seatTold 53 = .ok (.iload 4, 2) := by decide +kernel
theorem dX2_seatTold_55 : decode cX2_seatTold 55 = .ok (.invokevirtual 84, 3) := by decide +kernel
theorem dX2_seatTold_58 : decode cX2_seatTold 58 = .ok (.ifCond .eq 7, 3) := by decide +kernel
theorem dX2_seatTold_61 : decode cX2_seatTold 61 = .ok (.iconst 1, 1) := by decide +kernel
theorem dX2_seatTold_62 : decode cX2_seatTold 62 = .ok (.goto 4, 3) := by decide +kernel
theorem dX2_seatTold_65 : decode cX2_seatTold 65 = .ok (.iconst 0, 1) := by decide +kernel
theorem dX2_seatTold_66 : decode cX2_seatTold 66 = .ok (.iadd, 1) := by decide +kernel
theorem dX2_seatTold_67 : decode cX2_seatTold 67 = .ok (.istore_n 3, 1) := by decide +kernel
theorem dX2_seatTold_68 : decode cX2_seatTold 68 = .ok (.iinc 4 1, 3) := by decide +kernel
theorem dX2_seatTold_71 : decode cX2_seatTold 71 = .ok (.goto (-29), 3) := by decide +kernel
theorem dX2_seatTold_74 : decode cX2_seatTold 74 = .ok (.iload_n 3, 1) := by decide +kernel
theorem dX2_seatTold_75 : decode cX2_seatTold 75 = .ok (.ireturn, 1) := by decide +kernel
theorem dX2_seatTold_76 : decode cX2_seatTold 76 = .ok (.aload_n 0, 1) := by decide +kernel
theorem dX2_seatTold_77 : decode cX2_seatTold 77 = .ok (.iload_n 1, 1) := by decide +kernel
theorem dX2_seatTold_78 : decode cX2_seatTold 78 = .ok (.invokevirtual 132, 3) := by decide +kernel
theorem dX2_seatTold_81 : decode cX2_seatTold 81 = .ok (.ifCond .eq 7, 3) := by decide +kernel
theorem dX2_seatTold_84 : decode cX2_seatTold 84 = .ok (.iconst 1, 1) := by decide +kernel
theorem dX2_seatTold_85 : decode cX2_seatTold 85 = .ok (.goto 4, 3) := by decide +kernel
theorem dX2_seatTold_88 : decode cX2_seatTold 88 = .ok (.iconst 0, 1) := by decide +kernel
theorem dX2_seatTold_89 : decode cX2_seatTold 89 = .ok (.ireturn, 1) := by decide +kernel
theorem dX2_seatTold_90 : decode cX2_seatTold 90 = .ok (.aload_n 0, 1) := by decide +kernel
theorem dX2_seatTold_91 : decode cX2_seatTold 91 = .ok (.getfield 22, 3) := by decide +kernel
theorem dX2_seatTold_94 : decode cX2_seatTold 94 = .ok (.aload_n 0, 1) := by decide +kernel
theorem dX2_seatTold_95 : decode cX2_seatTold 95 = .ok (.getfield 19, 3) := by decide +kernel
theorem dX2_seatTold_98 : decode cX2_seatTold 98 = .ok (.iload_n 1, 1) := by decide +kernel
theorem dX2_seatTold_99 : decode cX2_seatTold 99 = .ok (.iaload, 1) := by decide +kernel
theorem dX2_seatTold_100 : decode cX2_seatTold 100 = .ok (.iaload, 1) := by decide +kernel
theorem dX2_seatTold_101 : decode cX2_seatTold 101 = .ok (.ifCond .le 7, 3) := by decide +kernel
theorem dX2_seatTold_104 : decode cX2_seatTold 104 = .ok (.iconst 1, 1) := by decide +kernel
theorem dX2_seatTold_105 : decode cX2_seatTold 105 = .ok (.goto 4, 3) := by decide +kernel
theorem dX2_seatTold_108 : decode cX2_seatTold 108 = .ok (.iconst 0, 1) := by decide +kernel
theorem dX2_seatTold_109 : decode cX2_seatTold 109 = .ok (.ireturn, 1) := by decide +kernel
theorem dX2_seatTold_110 : decode cX2_seatTold 110 = .ok (.iconst 0, 1) := by decide +kernel
theorem dX2_seatTold_111 : decode cX2_seatTold 111 = .ok (.istore 4, 2) := by decide +kernel
theorem dX2_seatTold_113 : decode cX2_seatTold 113 = .ok (.iload 4, 2) := by decide +kernel
theorem dX2_seatTold_115 : decode cX2_seatTold 115 = .ok (.aload_n 0, 1) := by decide +kernel
theorem dX2_seatTold_116 : decode cX2_seatTold 116 = .ok (.getfield 45, 3) := by decide +kernel
theorem dX2_seatTold_119 : decode cX2_seatTold 119 = .ok (.if_icmp .ge 38, 3) := by decide +kernel
theorem dX2_seatTold_122 : decode cX2_seatTold 122 = .ok (.iload_n 3, 1) := by decide +kernel
theorem dX2_seatTold_123 : decode cX2_seatTold 123 = .ok (.iload 4, 2) := by decide +kernel
theorem dX2_seatTold_125 : decode cX2_seatTold 125 = .ok (.iload_n 1, 1) := by decide +kernel
theorem dX2_seatTold_126 : decode cX2_seatTold 126 = .ok (.if_icmp .eq 22, 3) := by decide +kernel
theorem dX2_seatTold_129 : decode cX2_seatTold 129 = .ok (.aload_n 0, 1) := by decide +kernel
theorem dX2_seatTold_130 : decode cX2_seatTold 130 = .ok (.iload_n 1, 1) := by decide +kernel
theorem dX2_seatTold_131 : decode cX2_seatTold 131 = .ok (.aload_n 0, 1) := by decide +kernel
theorem dX2_seatTold_132 : decode cX2_seatTold 132 = .ok (.getfield 19, 3) := by decide +kernel
theorem dX2_seatTold_135 : decode cX2_seatTold 135 = .ok (.iload 4, 2) := by decide +kernel
theorem dX2_seatTold_137 : decode cX2_seatTold 137 = .ok (.iaload, 1) := by decide +kernel
theorem dX2_seatTold_138 : decode cX2_seatTold 138 = .ok (.invokevirtual 84, 3) := by decide +kernel
theorem dX2_seatTold_141 : decode cX2_seatTold 141 = .ok (.ifCond .eq 7, 3) := by decide +kernel
theorem dX2_seatTold_144 : decode cX2_seatTold 144 = .ok (.iconst 1, 1) := by decide +kernel
theorem dX2_seatTold_145 : decode cX2_seatTold 145 = .ok (.goto 4, 3) := by decide +kernel
theorem dX2_seatTold_148 : decode cX2_seatTold 148 = .ok (.iconst 0, 1) := by decide +kernel
theorem dX2_seatTold_149 : decode cX2_seatTold 149 = .ok (.iadd, 1) := by decide +kernel
theorem dX2_seatTold_150 : decode cX2_seatTold 150 = .ok (.istore_n 3, 1) := by decide +kernel
theorem dX2_seatTold_151 : decode cX2_seatTold 151 = .ok (.iinc 4 1, 3) := by decide +kernel
theorem dX2_seatTold_154 : decode cX2_seatTold 154 = .ok (.goto (-41), 3) := by decide +kernel
theorem dX2_seatTold_157 : decode cX2_seatTold 157 = .ok (.iload_n 3, 1) := by decide +kernel
theorem dX2_seatTold_158 : decode cX2_seatTold 158 = .ok (.ireturn, 1) := by decide +kernel
set_option maxRecDepth 20000 in
theorem ggX2_seat_X2_isWatcher : GoodIn wsX2_seat wsX2_isWatcher := goodIn_r _ [6, 7, 8, 9, 5, 10, 69, 70, 71, 72, 73, 74, 75, 76, 77, 78, 79, 80, 81, 82] (by decide +kernel) (by decide +kernel)
set_option maxRecDepth 20000 in
theorem gX2_seat_X2_isWatcher : GoodIn wsX2_seat (wsV RX2 107 RX2 yX2_isWatcher wsX2_isWatcher) := goodIn_app (goodIn_of _ (by decide +kernel)) ggX2_seat_X2_isWatcher
set_option maxRecDepth 20000 in
theorem ggX2_seat_X2_isIn : GoodIn wsX2_seat wsX2_isIn := goodIn_r _ [10] (by decide +kernel) (by decide +kernel)
set_option maxRecDepth 20000 in
theorem gX2_seat_X2_isIn : GoodIn wsX2_seat (va_wsS RX2 38 yX2_isIn wsX2_isIn) := goodIn_app (goodIn_of _ (by decide +kernel)) ggX2_seat_X2_isIn
set_option maxRecDepth 20000 in
theorem ggX2_seat_X2_no : GoodIn wsX2_seat wsX2_no := goodIn_r _ [14, 1, 69, 70, 71, 72, 73, 74, 75, 76, 77, 78, 79, 80, 81, 82] (by decide +kernel) (by decide +kernel)
set_option maxRecDepth 20000 in
theorem gX2_seat_X2_no : GoodIn wsX2_seat (wsV RX2 93 RX2 yX2_no wsX2_no) := goodIn_app (goodIn_of _ (by decide +kernel)) ggX2_seat_X2_no
set_option maxRecDepth 20000 in
theorem ggX2_seat_X2_look : GoodIn wsX2_seat wsX2_look := goodIn_r _ [18, 19, 20, 21, 22, 23, 24, 25, 26, 27, 28, 29, 30, 5, 31, 32, 33, 34, 35, 36, 37, 38, 39, 40, 41, 42, 43, 44, 45, 46, 47, 48, 49, 50, 51, 52, 53, 54, 55, 69, 70, 71, 72, 73, 74, 75, 76, 77, 78, 79, 80, 81, 82] (by decide +kernel) (by decide +kernel)
set_option maxRecDepth 20000 in
theorem gX2_seat_X2_look : GoodIn wsX2_seat (wsV RX2 103 RX2 yX2_look wsX2_look) := goodIn_app (goodIn_of _ (by decide +kernel)) ggX2_seat_X2_look
set_option maxRecDepth 20000 in
theorem ggX2_seat_X2_seatTold : GoodIn wsX2_seat wsX2_seatTold := goodIn_r _ [59, 60, 19, 7, 61, 62, 63, 5, 64, 41, 42, 43, 44, 45, 46, 47, 48, 49, 35, 36, 26, 37, 50, 51, 52, 53, 54, 55, 65, 66, 67, 68, 69, 70, 71, 72, 73, 74, 75, 76, 77, 78, 79, 80, 81, 82] (by decide +kernel) (by decide +kernel)
set_option maxRecDepth 20000 in
theorem gX2_seat_X2_seatTold : GoodIn wsX2_seat (wsV RX2 135 RX2 yX2_seatTold wsX2_seatTold) := goodIn_app (goodIn_of _ (by decide +kernel)) ggX2_seat_X2_seatTold
theorem dX2_seat_0 : decode cX2_seat 0 = .ok (.aload_n 0, 1) := by decide +kernel
theorem dX2_seat_1 : decode cX2_seat 1 = .ok (.iconst 0, 1) := by decide +kernel
theorem dX2_seat_2 : decode cX2_seat 2 = .ok (.putfield 34, 3) := by decide +kernel
theorem dX2_seat_5 : decode cX2_seat 5 = .ok (.aload_n 0, 1) := by decide +kernel
theorem dX2_seat_6 : decode cX2_seat 6 = .ok (.iload_n 1, 1) := by decide +kernel
theorem dX2_seat_7 : decode cX2_seat 7 = .ok (.invokevirtual 107, 3) := by decide +kernel
theorem dX2_seat_10 : decode cX2_seat 10 = .ok (.ifCond .eq 12, 3) := by decide +kernel
theorem dX2_seat_13 : decode cX2_seat 13 = .ok (.iload_n 2, 1) := by decide +kernel
theorem dX2_seat_14 : decode cX2_seat 14 = .ok (.iconst 0, 1) := by decide +kernel
theorem dX2_seat_15 : decode cX2_seat 15 = .ok (.iconst 4, 1) := by decide +kernel
theorem dX2_seat_16 : decode cX2_seat 16 = .ok (.invokestatic 38, 3) := by decide +kernel
theorem dX2_seat_19 : decode cX2_seat 19 = .ok (.ifCond .ne 9, 3) := by decide +kernel
theorem dX2_seat_22 : decode cX2_seat 22 = .ok (.aload_n 0, 1) := by decide +kernel
theorem dX2_seat_23 : decode cX2_seat 23 = .ok (.iconst 1, 1) := by decide +kernel
theorem dX2_seat_24 : decode cX2_seat 24 = .ok (.invokevirtual 93, 3) := by decide +kernel
theorem dX2_seat_27 : decode cX2_seat 27 = .ok (.ireturn, 1) := by decide +kernel
theorem dX2_seat_28 : decode cX2_seat 28 = .ok (.aload_n 0, 1) := by decide +kernel
theorem dX2_seat_29 : decode cX2_seat 29 = .ok (.invokevirtual 103, 3) := by decide +kernel
theorem dX2_seat_32 : decode cX2_seat 32 = .ok (.pop, 1) := by decide +kernel
theorem dX2_seat_33 : decode cX2_seat 33 = .ok (.aload_n 0, 1) := by decide +kernel
theorem dX2_seat_34 : decode cX2_seat 34 = .ok (.iload_n 1, 1) := by decide +kernel
theorem dX2_seat_35 : decode cX2_seat 35 = .ok (.iload_n 2, 1) := by decide +kernel
theorem dX2_seat_36 : decode cX2_seat 36 = .ok (.invokevirtual 135, 3) := by decide +kernel
theorem dX2_seat_39 : decode cX2_seat 39 = .ok (.ireturn, 1) := by decide +kernel
set_option maxRecDepth 20000 in
theorem ggX2_sees_X2_isWatcher : GoodIn wsX2_sees wsX2_isWatcher := goodIn_r _ [7, 8, 9, 10, 6, 11, 57, 58, 59, 60, 61, 62, 63, 64, 65, 66, 67, 68, 69, 70] (by decide +kernel) (by decide +kernel)
set_option maxRecDepth 20000 in
theorem gX2_sees_X2_isWatcher : GoodIn wsX2_sees (wsV RX2 107 RX2 yX2_isWatcher wsX2_isWatcher) := goodIn_app (goodIn_of _ (by decide +kernel)) ggX2_sees_X2_isWatcher
set_option maxRecDepth 20000 in
theorem ggX2_sees_X2_look : GoodIn wsX2_sees wsX2_look := goodIn_r _ [15, 16, 17, 18, 19, 20, 21, 22, 23, 24, 25, 26, 27, 6, 28, 29, 30, 31, 32, 33, 34, 35, 36, 37, 38, 39, 40, 41, 42, 43, 44, 45, 46, 47, 48, 49, 50, 51, 52, 57, 58, 59, 60, 61, 62, 63, 64, 65, 66, 67, 68, 69, 70] (by decide +kernel) (by decide +kernel)
set_option maxRecDepth 20000 in
theorem gX2_sees_X2_look : GoodIn wsX2_sees (wsV RX2 103 RX2 yX2_look wsX2_look) := goodIn_app (goodIn_of _ (by decide +kernel)) ggX2_sees_X2_look
set_option maxRecDepth 20000 in
theorem ggX2_sees_X2_seesCell : GoodIn wsX2_sees wsX2_seesCell := goodIn_r _ [56, 16, 2, 38, 39, 40, 6, 41, 42, 43, 44, 45, 46, 32, 33, 23, 34, 47, 48, 49, 50, 51, 52, 57, 58, 59, 60, 61, 62, 63, 64, 65, 66, 67, 68, 69, 70] (by decide +kernel) (by decide +kernel)
set_option maxRecDepth 20000 in
theorem gX2_sees_X2_seesCell : GoodIn wsX2_sees (wsV RX2 84 RX2 yX2_seesCell wsX2_seesCell) := goodIn_app (goodIn_of _ (by decide +kernel)) ggX2_sees_X2_seesCell
theorem dX2_sees_0 : decode cX2_sees 0 = .ok (.aload_n 0, 1) := by decide +kernel
theorem dX2_sees_1 : decode cX2_sees 1 = .ok (.aload_n 0, 1) := by decide +kernel
theorem dX2_sees_2 : decode cX2_sees 2 = .ok (.iload_n 1, 1) := by decide +kernel
theorem dX2_sees_3 : decode cX2_sees 3 = .ok (.invokevirtual 107, 3) := by decide +kernel
theorem dX2_sees_6 : decode cX2_sees 6 = .ok (.ifCond .eq 15, 3) := by decide +kernel
theorem dX2_sees_9 : decode cX2_sees 9 = .ok (.aload_n 0, 1) := by decide +kernel
theorem dX2_sees_10 : decode cX2_sees 10 = .ok (.iload_n 2, 1) := by decide +kernel
theorem dX2_sees_11 : decode cX2_sees 11 = .ok (.invokevirtual 107, 3) := by decide +kernel
theorem dX2_sees_14 : decode cX2_sees 14 = .ok (.ifCond .eq 7, 3) := by decide +kernel
theorem dX2_sees_17 : decode cX2_sees 17 = .ok (.iconst 0, 1) := by decide +kernel
theorem dX2_sees_18 : decode cX2_sees 18 = .ok (.goto 4, 3) := by decide +kernel
theorem dX2_sees_21 : decode cX2_sees 21 = .ok (.iconst 1, 1) := by decide +kernel
theorem dX2_sees_22 : decode cX2_sees 22 = .ok (.putfield 34, 3) := by decide +kernel
theorem dX2_sees_25 : decode cX2_sees 25 = .ok (.aload_n 0, 1) := by decide +kernel
theorem dX2_sees_26 : decode cX2_sees 26 = .ok (.getfield 34, 3) := by decide +kernel
theorem dX2_sees_29 : decode cX2_sees 29 = .ok (.ifCond .eq 5, 3) := by decide +kernel
theorem dX2_sees_32 : decode cX2_sees 32 = .ok (.iconst 0, 1) := by decide +kernel
theorem dX2_sees_33 : decode cX2_sees 33 = .ok (.ireturn, 1) := by decide +kernel
theorem dX2_sees_34 : decode cX2_sees 34 = .ok (.aload_n 0, 1) := by decide +kernel
theorem dX2_sees_35 : decode cX2_sees 35 = .ok (.invokevirtual 103, 3) := by decide +kernel
theorem dX2_sees_38 : decode cX2_sees 38 = .ok (.pop, 1) := by decide +kernel
theorem dX2_sees_39 : decode cX2_sees 39 = .ok (.aload_n 0, 1) := by decide +kernel
theorem dX2_sees_40 : decode cX2_sees 40 = .ok (.iload_n 1, 1) := by decide +kernel
theorem dX2_sees_41 : decode cX2_sees 41 = .ok (.aload_n 0, 1) := by decide +kernel
theorem dX2_sees_42 : decode cX2_sees 42 = .ok (.getfield 19, 3) := by decide +kernel
theorem dX2_sees_45 : decode cX2_sees 45 = .ok (.iload_n 2, 1) := by decide +kernel
theorem dX2_sees_46 : decode cX2_sees 46 = .ok (.iaload, 1) := by decide +kernel
theorem dX2_sees_47 : decode cX2_sees 47 = .ok (.invokevirtual 84, 3) := by decide +kernel
theorem dX2_sees_50 : decode cX2_sees 50 = .ok (.ireturn, 1) := by decide +kernel
set_option maxRecDepth 20000 in
theorem ggX2_edges_X2_beside : GoodIn wsX2_edges wsX2_beside := goodIn_r _ [5, 6, 7, 4, 8, 9, 10, 11] (by decide +kernel) (by decide +kernel)
set_option maxRecDepth 20000 in
theorem gX2_edges_X2_beside : GoodIn wsX2_edges (va_wsS RX2 90 yX2_beside wsX2_beside) := goodIn_app (goodIn_of _ (by decide +kernel)) ggX2_edges_X2_beside
theorem dX2_edges_0 : decode cX2_edges 0 = .ok (.iconst 0, 1) := by decide +kernel
theorem dX2_edges_1 : decode cX2_edges 1 = .ok (.istore_n 1, 1) := by decide +kernel
theorem dX2_edges_2 : decode cX2_edges 2 = .ok (.iconst 0, 1) := by decide +kernel
theorem dX2_edges_3 : decode cX2_edges 3 = .ok (.istore_n 2, 1) := by decide +kernel
theorem dX2_edges_4 : decode cX2_edges 4 = .ok (.iload_n 2, 1) := by decide +kernel
theorem dX2_edges_5 : decode cX2_edges 5 = .ok (.sipush 144, 3) := by decide +kernel
theorem dX2_edges_8 : decode cX2_edges 8 = .ok (.if_icmp .ge 74, 3) := by decide +kernel
theorem dX2_edges_11 : decode cX2_edges 11 = .ok (.iconst 1, 1) := by decide +kernel
theorem dX2_edges_12 : decode cX2_edges 12 = .ok (.istore_n 3, 1) := by decide +kernel
theorem dX2_edges_13 : decode cX2_edges 13 = .ok (.iload_n 3, 1) := by decide +kernel
theorem dX2_edges_14 : decode cX2_edges 14 = .ok (.iconst 4, 1) := by decide +kernel
theorem dX2_edges_15 : decode cX2_edges 15 = .ok (.if_icmp .ge 61, 3) := by decide +kernel
theorem dX2_edges_18 : decode cX2_edges 18 = .ok (.iload_n 1, 1) := by decide +kernel
theorem dX2_edges_19 : decode cX2_edges 19 = .ok (.iload_n 2, 1) := by decide +kernel
theorem dX2_edges_20 : decode cX2_edges 20 = .ok (.iload_n 3, 1) := by decide +kernel
theorem dX2_edges_21 : decode cX2_edges 21 = .ok (.invokestatic 90, 3) := by decide +kernel
theorem dX2_edges_24 : decode cX2_edges 24 = .ok (.iconst (-1), 1) := by decide +kernel
theorem dX2_edges_25 : decode cX2_edges 25 = .ok (.if_icmp .eq 42, 3) := by decide +kernel
theorem dX2_edges_28 : decode cX2_edges 28 = .ok (.aload_n 0, 1) := by decide +kernel
theorem dX2_edges_29 : decode cX2_edges 29 = .ok (.getfield 22, 3) := by decide +kernel
theorem dX2_edges_32 : decode cX2_edges 32 = .ok (.iload_n 2, 1) := by decide +kernel
theorem dX2_edges_33 : decode cX2_edges 33 = .ok (.iaload, 1) := by decide +kernel
theorem dX2_edges_34 : decode cX2_edges 34 = .ok (.ifCond .le 7, 3) := by decide +kernel
theorem dX2_edges_37 : decode cX2_edges 37 = .ok (.iconst 1, 1) := by decide +kernel
theorem dX2_edges_38 : decode cX2_edges 38 = .ok (.goto 4, 3) := by decide +kernel
theorem dX2_edges_41 : decode cX2_edges 41 = .ok (.iconst 0, 1) := by decide +kernel
theorem dX2_edges_42 : decode cX2_edges 42 = .ok (.aload_n 0, 1) := by decide +kernel
theorem dX2_edges_43 : decode cX2_edges 43 = .ok (.getfield 22, 3) := by decide +kernel
theorem dX2_edges_46 : decode cX2_edges 46 = .ok (.iload_n 2, 1) := by decide +kernel
theorem dX2_edges_47 : decode cX2_edges 47 = .ok (.iload_n 3, 1) := by decide +kernel
theorem dX2_edges_48 : decode cX2_edges 48 = .ok (.invokestatic 90, 3) := by decide +kernel
theorem dX2_edges_51 : decode cX2_edges 51 = .ok (.iaload, 1) := by decide +kernel
theorem dX2_edges_52 : decode cX2_edges 52 = .ok (.ifCond .le 7, 3) := by decide +kernel
theorem dX2_edges_55 : decode cX2_edges 55 = .ok (.iconst 1, 1) := by decide +kernel
theorem dX2_edges_56 : decode cX2_edges 56 = .ok (.goto 4, 3) := by decide +kernel
theorem dX2_edges_59 : decode cX2_edges 59 = .ok (.iconst 0, 1) := by decide +kernel
theorem dX2_edges_60 : decode cX2_edges 60 = .ok (.if_icmp .eq 7, 3) := by decide +kernel
theorem dX2_edges_63 : decode cX2_edges 63 = .ok (.iconst 1, 1) := by decide +kernel
theorem dX2_edges_64 : decode cX2_edges 64 = .ok (.goto 4, 3) := by decide +kernel
theorem dX2_edges_67 : decode cX2_edges 67 = .ok (.iconst 0, 1) := by decide +kernel
theorem dX2_edges_68 : decode cX2_edges 68 = .ok (.iadd, 1) := by decide +kernel
theorem dX2_edges_69 : decode cX2_edges 69 = .ok (.istore_n 1, 1) := by decide +kernel
theorem dX2_edges_70 : decode cX2_edges 70 = .ok (.iinc 3 2, 3) := by decide +kernel
theorem dX2_edges_73 : decode cX2_edges 73 = .ok (.goto (-60), 3) := by decide +kernel
theorem dX2_edges_76 : decode cX2_edges 76 = .ok (.iinc 2 1, 3) := by decide +kernel
theorem dX2_edges_79 : decode cX2_edges 79 = .ok (.goto (-75), 3) := by decide +kernel
theorem dX2_edges_82 : decode cX2_edges 82 = .ok (.iload_n 1, 1) := by decide +kernel
theorem dX2_edges_83 : decode cX2_edges 83 = .ok (.ireturn, 1) := by decide +kernel
theorem dX2_notOpen_0 : decode cX2_notOpen 0 = .ok (.iconst 0, 1) := by decide +kernel
theorem dX2_notOpen_1 : decode cX2_notOpen 1 = .ok (.istore_n 1, 1) := by decide +kernel
theorem dX2_notOpen_2 : decode cX2_notOpen 2 = .ok (.aload_n 0, 1) := by decide +kernel
theorem dX2_notOpen_3 : decode cX2_notOpen 3 = .ok (.getfield 9, 3) := by decide +kernel
theorem dX2_notOpen_6 : decode cX2_notOpen 6 = .ok (.astore_n 2, 1) := by decide +kernel
theorem dX2_notOpen_7 : decode cX2_notOpen 7 = .ok (.aload_n 2, 1) := by decide +kernel
theorem dX2_notOpen_8 : decode cX2_notOpen 8 = .ok (.arraylength, 1) := by decide +kernel
theorem dX2_notOpen_9 : decode cX2_notOpen 9 = .ok (.istore_n 3, 1) := by decide +kernel
theorem dX2_notOpen_10 : decode cX2_notOpen 10 = .ok (.iconst 0, 1) := by decide +kernel
theorem dX2_notOpen_11 : decode cX2_notOpen 11 = .ok (.istore 4, 2) := by decide +kernel
theorem dX2_notOpen_13 : decode cX2_notOpen 13 = .ok (.iload 4, 2) := by decide +kernel
theorem dX2_notOpen_15 : decode cX2_notOpen 15 = .ok (.iload_n 3, 1) := by decide +kernel
theorem dX2_notOpen_16 : decode cX2_notOpen 16 = .ok (.if_icmp .ge 28, 3) := by decide +kernel
theorem dX2_notOpen_19 : decode cX2_notOpen 19 = .ok (.aload_n 2, 1) := by decide +kernel
theorem dX2_notOpen_20 : decode cX2_notOpen 20 = .ok (.iload 4, 2) := by decide +kernel
theorem dX2_notOpen_22 : decode cX2_notOpen 22 = .ok (.iaload, 1) := by decide +kernel
theorem dX2_notOpen_23 : decode cX2_notOpen 23 = .ok (.istore 5, 2) := by decide +kernel
theorem dX2_notOpen_25 : decode cX2_notOpen 25 = .ok (.iload_n 1, 1) := by decide +kernel
theorem dX2_notOpen_26 : decode cX2_notOpen 26 = .ok (.iload 5, 2) := by decide +kernel
theorem dX2_notOpen_28 : decode cX2_notOpen 28 = .ok (.ifCond .ne 7, 3) := by decide +kernel
theorem dX2_notOpen_31 : decode cX2_notOpen 31 = .ok (.iconst 0, 1) := by decide +kernel
theorem dX2_notOpen_32 : decode cX2_notOpen 32 = .ok (.goto 4, 3) := by decide +kernel
theorem dX2_notOpen_35 : decode cX2_notOpen 35 = .ok (.iconst 1, 1) := by decide +kernel
theorem dX2_notOpen_36 : decode cX2_notOpen 36 = .ok (.iadd, 1) := by decide +kernel
theorem dX2_notOpen_37 : decode cX2_notOpen 37 = .ok (.istore_n 1, 1) := by decide +kernel
theorem dX2_notOpen_38 : decode cX2_notOpen 38 = .ok (.iinc 4 1, 3) := by decide +kernel
theorem dX2_notOpen_41 : decode cX2_notOpen 41 = .ok (.goto (-28), 3) := by decide +kernel
theorem dX2_notOpen_44 : decode cX2_notOpen 44 = .ok (.iload_n 1, 1) := by decide +kernel
theorem dX2_notOpen_45 : decode cX2_notOpen 45 = .ok (.ireturn, 1) := by decide +kernel
theorem dX2_lit_0 : decode cX2_lit 0 = .ok (.iconst 0, 1) := by decide +kernel
theorem dX2_lit_1 : decode cX2_lit 1 = .ok (.istore_n 1, 1) := by decide +kernel
theorem dX2_lit_2 : decode cX2_lit 2 = .ok (.aload_n 0, 1) := by decide +kernel
theorem dX2_lit_3 : decode cX2_lit 3 = .ok (.getfield 22, 3) := by decide +kernel
theorem dX2_lit_6 : decode cX2_lit 6 = .ok (.astore_n 2, 1) := by decide +kernel
theorem dX2_lit_7 : decode cX2_lit 7 = .ok (.aload_n 2, 1) := by decide +kernel
theorem dX2_lit_8 : decode cX2_lit 8 = .ok (.arraylength, 1) := by decide +kernel
theorem dX2_lit_9 : decode cX2_lit 9 = .ok (.istore_n 3, 1) := by decide +kernel
theorem dX2_lit_10 : decode cX2_lit 10 = .ok (.iconst 0, 1) := by decide +kernel
theorem dX2_lit_11 : decode cX2_lit 11 = .ok (.istore 4, 2) := by decide +kernel
theorem dX2_lit_13 : decode cX2_lit 13 = .ok (.iload 4, 2) := by decide +kernel
theorem dX2_lit_15 : decode cX2_lit 15 = .ok (.iload_n 3, 1) := by decide +kernel
theorem dX2_lit_16 : decode cX2_lit 16 = .ok (.if_icmp .ge 28, 3) := by decide +kernel
theorem dX2_lit_19 : decode cX2_lit 19 = .ok (.aload_n 2, 1) := by decide +kernel
theorem dX2_lit_20 : decode cX2_lit 20 = .ok (.iload 4, 2) := by decide +kernel
theorem dX2_lit_22 : decode cX2_lit 22 = .ok (.iaload, 1) := by decide +kernel
theorem dX2_lit_23 : decode cX2_lit 23 = .ok (.istore 5, 2) := by decide +kernel
theorem dX2_lit_25 : decode cX2_lit 25 = .ok (.iload_n 1, 1) := by decide +kernel
theorem dX2_lit_26 : decode cX2_lit 26 = .ok (.iload 5, 2) := by decide +kernel
theorem dX2_lit_28 : decode cX2_lit 28 = .ok (.ifCond .le 7, 3) := by decide +kernel
theorem dX2_lit_31 : decode cX2_lit 31 = .ok (.iconst 1, 1) := by decide +kernel
theorem dX2_lit_32 : decode cX2_lit 32 = .ok (.goto 4, 3) := by decide +kernel
theorem dX2_lit_35 : decode cX2_lit 35 = .ok (.iconst 0, 1) := by decide +kernel
theorem dX2_lit_36 : decode cX2_lit 36 = .ok (.iadd, 1) := by decide +kernel
theorem dX2_lit_37 : decode cX2_lit 37 = .ok (.istore_n 1, 1) := by decide +kernel
theorem dX2_lit_38 : decode cX2_lit 38 = .ok (.iinc 4 1, 3) := by decide +kernel
theorem dX2_lit_41 : decode cX2_lit 41 = .ok (.goto (-28), 3) := by decide +kernel
theorem dX2_lit_44 : decode cX2_lit 44 = .ok (.iload_n 1, 1) := by decide +kernel
theorem dX2_lit_45 : decode cX2_lit 45 = .ok (.ireturn, 1) := by decide +kernel
set_option maxRecDepth 20000 in
theorem ggX2_hidden_X2_isHidden : GoodIn wsX2_hidden wsX2_isHidden := goodIn_r _ [6, 1, 7, 8, 9, 10, 5, 11, 12, 13, 14, 15, 16, 17, 18, 19, 20, 21, 22, 23, 24, 25, 26, 27, 28, 29, 30, 31, 32, 33, 34, 35, 36, 37, 38, 39, 40, 41, 42, 43, 44, 45] (by decide +kernel) (by decide +kernel)
set_option maxRecDepth 20000 in
theorem gX2_hidden_X2_isHidden : GoodIn wsX2_hidden (wsV RX2 132 RX2 yX2_isHidden wsX2_isHidden) := goodIn_app (goodIn_of _ (by decide +kernel)) ggX2_hidden_X2_isHidden
theorem dX2_hidden_0 : decode cX2_hidden 0 = .ok (.iconst 0, 1) := by decide +kernel
theorem dX2_hidden_1 : decode cX2_hidden 1 = .ok (.istore_n 1, 1) := by decide +kernel
theorem dX2_hidden_2 : decode cX2_hidden 2 = .ok (.iconst 0, 1) := by decide +kernel
theorem dX2_hidden_3 : decode cX2_hidden 3 = .ok (.istore_n 2, 1) := by decide +kernel
theorem dX2_hidden_4 : decode cX2_hidden 4 = .ok (.iload_n 2, 1) := by decide +kernel
theorem dX2_hidden_5 : decode cX2_hidden 5 = .ok (.aload_n 0, 1) := by decide +kernel
theorem dX2_hidden_6 : decode cX2_hidden 6 = .ok (.getfield 45, 3) := by decide +kernel
theorem dX2_hidden_9 : decode cX2_hidden 9 = .ok (.if_icmp .ge 25, 3) := by decide +kernel
theorem dX2_hidden_12 : decode cX2_hidden 12 = .ok (.iload_n 1, 1) := by decide +kernel
theorem dX2_hidden_13 : decode cX2_hidden 13 = .ok (.aload_n 0, 1) := by decide +kernel
theorem dX2_hidden_14 : decode cX2_hidden 14 = .ok (.iload_n 2, 1) := by decide +kernel
theorem dX2_hidden_15 : decode cX2_hidden 15 = .ok (.invokevirtual 132, 3) := by decide +kernel
theorem dX2_hidden_18 : decode cX2_hidden 18 = .ok (.ifCond .eq 7, 3) := by decide +kernel
theorem dX2_hidden_21 : decode cX2_hidden 21 = .ok (.iconst 1, 1) := by decide +kernel
theorem dX2_hidden_22 : decode cX2_hidden 22 = .ok (.goto 4, 3) := by decide +kernel
theorem dX2_hidden_25 : decode cX2_hidden 25 = .ok (.iconst 0, 1) := by decide +kernel
theorem dX2_hidden_26 : decode cX2_hidden 26 = .ok (.iadd, 1) := by decide +kernel
theorem dX2_hidden_27 : decode cX2_hidden 27 = .ok (.istore_n 1, 1) := by decide +kernel
theorem dX2_hidden_28 : decode cX2_hidden 28 = .ok (.iinc 2 1, 3) := by decide +kernel
theorem dX2_hidden_31 : decode cX2_hidden 31 = .ok (.goto (-27), 3) := by decide +kernel
theorem dX2_hidden_34 : decode cX2_hidden 34 = .ok (.iload_n 1, 1) := by decide +kernel
theorem dX2_hidden_35 : decode cX2_hidden 35 = .ok (.ireturn, 1) := by decide +kernel
theorem dX2_allBright_0 : decode cX2_allBright 0 = .ok (.iconst 0, 1) := by decide +kernel
theorem dX2_allBright_1 : decode cX2_allBright 1 = .ok (.istore_n 1, 1) := by decide +kernel
theorem dX2_allBright_2 : decode cX2_allBright 2 = .ok (.aload_n 0, 1) := by decide +kernel
theorem dX2_allBright_3 : decode cX2_allBright 3 = .ok (.getfield 25, 3) := by decide +kernel
theorem dX2_allBright_6 : decode cX2_allBright 6 = .ok (.astore_n 2, 1) := by decide +kernel
theorem dX2_allBright_7 : decode cX2_allBright 7 = .ok (.aload_n 2, 1) := by decide +kernel
theorem dX2_allBright_8 : decode cX2_allBright 8 = .ok (.arraylength, 1) := by decide +kernel
theorem dX2_allBright_9 : decode cX2_allBright 9 = .ok (.istore_n 3, 1) := by decide +kernel
theorem dX2_allBright_10 : decode cX2_allBright 10 = .ok (.iconst 0, 1) := by decide +kernel
theorem dX2_allBright_11 : decode cX2_allBright 11 = .ok (.istore 4, 2) := by decide +kernel
theorem dX2_allBright_13 : decode cX2_allBright 13 = .ok (.iload 4, 2) := by decide +kernel
theorem dX2_allBright_15 : decode cX2_allBright 15 = .ok (.iload_n 3, 1) := by decide +kernel
theorem dX2_allBright_16 : decode cX2_allBright 16 = .ok (.if_icmp .ge 20, 3) := by decide +kernel
theorem dX2_allBright_19 : decode cX2_allBright 19 = .ok (.aload_n 2, 1) := by decide +kernel
theorem dX2_allBright_20 : decode cX2_allBright 20 = .ok (.iload 4, 2) := by decide +kernel
theorem dX2_allBright_22 : decode cX2_allBright 22 = .ok (.iaload, 1) := by decide +kernel
theorem dX2_allBright_23 : decode cX2_allBright 23 = .ok (.istore 5, 2) := by decide +kernel
theorem dX2_allBright_25 : decode cX2_allBright 25 = .ok (.iload_n 1, 1) := by decide +kernel
theorem dX2_allBright_26 : decode cX2_allBright 26 = .ok (.iload 5, 2) := by decide +kernel
theorem dX2_allBright_28 : decode cX2_allBright 28 = .ok (.iadd, 1) := by decide +kernel
theorem dX2_allBright_29 : decode cX2_allBright 29 = .ok (.istore_n 1, 1) := by decide +kernel
theorem dX2_allBright_30 : decode cX2_allBright 30 = .ok (.iinc 4 1, 3) := by decide +kernel
theorem dX2_allBright_33 : decode cX2_allBright 33 = .ok (.goto (-20), 3) := by decide +kernel
theorem dX2_allBright_36 : decode cX2_allBright 36 = .ok (.iload_n 1, 1) := by decide +kernel
theorem dX2_allBright_37 : decode cX2_allBright 37 = .ok (.ireturn, 1) := by decide +kernel
set_option maxRecDepth 20000 in
theorem ggX2_counted_X2_notOpen : GoodIn wsX2_counted wsX2_notOpen := goodIn_r _ [8, 9, 64, 65, 66, 67, 68, 69, 70, 71, 72, 73, 74, 75, 76, 77] (by decide +kernel) (by decide +kernel)
set_option maxRecDepth 20000 in
theorem gX2_counted_X2_notOpen : GoodIn wsX2_counted (wsV RX2 138 RX2 yX2_notOpen wsX2_notOpen) := goodIn_app (goodIn_of _ (by decide +kernel)) ggX2_counted_X2_notOpen
set_option maxRecDepth 20000 in
theorem ggX2_counted_X2_lit : GoodIn wsX2_counted wsX2_lit := goodIn_r _ [13, 14, 64, 65, 66, 67, 68, 69, 70, 71, 72, 73, 74, 75, 76, 77] (by decide +kernel) (by decide +kernel)
set_option maxRecDepth 20000 in
theorem gX2_counted_X2_lit : GoodIn wsX2_counted (wsV RX2 141 RX2 yX2_lit wsX2_lit) := goodIn_app (goodIn_of _ (by decide +kernel)) ggX2_counted_X2_lit
set_option maxRecDepth 20000 in
theorem ggX2_counted_X2_edges : GoodIn wsX2_counted wsX2_edges := goodIn_r _ [18, 14, 19, 20, 7, 21, 22, 23, 24, 25, 26, 27, 64, 65, 66, 67, 68, 69, 70, 71, 72, 73, 74, 75, 76, 77] (by decide +kernel) (by decide +kernel)
set_option maxRecDepth 20000 in
theorem gX2_counted_X2_edges : GoodIn wsX2_counted (wsV RX2 144 RX2 yX2_edges wsX2_edges) := goodIn_app (goodIn_of _ (by decide +kernel)) ggX2_counted_X2_edges
set_option maxRecDepth 20000 in
theorem ggX2_counted_X2_hidden : GoodIn wsX2_counted wsX2_hidden := goodIn_r _ [31, 2, 32, 33, 34, 7, 35, 36, 37, 38, 39, 40, 14, 41, 42, 43, 44, 45, 46, 47, 48, 49, 50, 51, 52, 53, 54, 55, 56, 57, 58, 9, 64, 65, 66, 67, 68, 69, 70, 71, 72, 73, 74, 75, 76, 77] (by decide +kernel) (by decide +kernel)
set_option maxRecDepth 20000 in
theorem gX2_counted_X2_hidden : GoodIn wsX2_counted (wsV RX2 147 RX2 yX2_hidden wsX2_hidden) := goodIn_app (goodIn_of _ (by decide +kernel)) ggX2_counted_X2_hidden
set_option maxRecDepth 20000 in
theorem ggX2_counted_X2_allBright : GoodIn wsX2_counted wsX2_allBright := goodIn_r _ [62, 63, 64, 65, 66, 67, 68, 69, 70, 71, 72, 73, 74, 75, 76, 77] (by decide +kernel) (by decide +kernel)
set_option maxRecDepth 20000 in
theorem gX2_counted_X2_allBright : GoodIn wsX2_counted (wsV RX2 150 RX2 yX2_allBright wsX2_allBright) := goodIn_app (goodIn_of _ (by decide +kernel)) ggX2_counted_X2_allBright
theorem dX2_counted_0 : decode cX2_counted 0 = .ok (.iload_n 1, 1) := by decide +kernel
theorem dX2_counted_1 : decode cX2_counted 1 = .ok (.tableswitch 78 0 6 #[43, 48, 53, 58, 63, 68, 73], 43) := by decide +kernel
theorem dX2_counted_44 : decode cX2_counted 44 = .ok (.aload_n 0, 1) := by decide +kernel
theorem dX2_counted_45 : decode cX2_counted 45 = .ok (.getfield 42, 3) := by decide +kernel
theorem dX2_counted_48 : decode cX2_counted 48 = .ok (.ireturn, 1) := by decide +kernel
theorem dX2_counted_49 : decode cX2_counted 49 = .ok (.aload_n 0, 1) := by decide +kernel
theorem dX2_counted_50 : decode cX2_counted 50 = .ok (.getfield 45, 3) := by decide +kernel
theorem dX2_counted_53 : decode cX2_counted 53 = .ok (.ireturn, 1) := by decide +kernel
theorem dX2_counted_54 : decode cX2_counted 54 = .ok (.aload_n 0, 1) := by decide +kernel
theorem dX2_counted_55 : decode cX2_counted 55 = .ok (.invokevirtual 138, 3) := by decide +kernel
theorem dX2_counted_58 : decode cX2_counted 58 = .ok (.ireturn, 1) := by decide +kernel
theorem dX2_counted_59 : decode cX2_counted 59 = .ok (.aload_n 0, 1) := by decide +kernel
theorem dX2_counted_60 : decode cX2_counted 60 = .ok (.invokevirtual 141, 3) := by decide +kernel
theorem dX2_counted_63 : decode cX2_counted 63 = .ok (.ireturn, 1) := by decide +kernel
theorem dX2_counted_64 : decode cX2_counted 64 = .ok (.aload_n 0, 1) := by decide +kernel
theorem dX2_counted_65 : decode cX2_counted 65 = .ok (.invokevirtual 144, 3) := by decide +kernel
theorem dX2_counted_68 : decode cX2_counted 68 = .ok (.ireturn, 1) := by decide +kernel
theorem dX2_counted_69 : decode cX2_counted 69 = .ok (.aload_n 0, 1) := by decide +kernel
theorem dX2_counted_70 : decode cX2_counted 70 = .ok (.invokevirtual 147, 3) := by decide +kernel
theorem dX2_counted_73 : decode cX2_counted 73 = .ok (.ireturn, 1) := by decide +kernel
theorem dX2_counted_74 : decode cX2_counted 74 = .ok (.aload_n 0, 1) := by decide +kernel
theorem dX2_counted_75 : decode cX2_counted 75 = .ok (.invokevirtual 150, 3) := by decide +kernel
theorem dX2_counted_78 : decode cX2_counted 78 = .ok (.ireturn, 1) := by decide +kernel
theorem dX2_counted_79 : decode cX2_counted 79 = .ok (.aload_n 0, 1) := by decide +kernel
theorem dX2_counted_80 : decode cX2_counted 80 = .ok (.getfield 113, 3) := by decide +kernel
theorem dX2_counted_83 : decode cX2_counted 83 = .ok (.ireturn, 1) := by decide +kernel
set_option maxRecDepth 20000 in
theorem ggX2_count_X2_isIn : GoodIn wsX2_count wsX2_isIn := goodIn_r _ [5] (by decide +kernel) (by decide +kernel)
set_option maxRecDepth 20000 in
theorem gX2_count_X2_isIn : GoodIn wsX2_count (va_wsS RX2 38 yX2_isIn wsX2_isIn) := goodIn_app (goodIn_of _ (by decide +kernel)) ggX2_count_X2_isIn
set_option maxRecDepth 20000 in
theorem ggX2_count_X2_no : GoodIn wsX2_count wsX2_no := goodIn_r _ [9, 1, 92, 93, 94, 95, 96, 97, 98, 99, 100, 101, 102, 103, 104, 105] (by decide +kernel) (by decide +kernel)
set_option maxRecDepth 20000 in
theorem gX2_count_X2_no : GoodIn wsX2_count (wsV RX2 93 RX2 yX2_no wsX2_no) := goodIn_app (goodIn_of _ (by decide +kernel)) ggX2_count_X2_no
set_option maxRecDepth 20000 in
theorem ggX2_count_X2_look : GoodIn wsX2_count wsX2_look := goodIn_r _ [13, 14, 15, 16, 17, 18, 19, 20, 21, 22, 23, 24, 25, 4, 26, 27, 28, 29, 30, 31, 32, 33, 34, 35, 36, 37, 38, 39, 40, 41, 42, 43, 44, 45, 46, 47, 48, 49, 50, 92, 93, 94, 95, 96, 97, 98, 99, 100, 101, 102, 103, 104, 105] (by decide +kernel) (by decide +kernel)
set_option maxRecDepth 20000 in
theorem gX2_count_X2_look : GoodIn wsX2_count (wsV RX2 103 RX2 yX2_look wsX2_look) := goodIn_app (goodIn_of _ (by decide +kernel)) ggX2_count_X2_look
set_option maxRecDepth 20000 in
theorem ggX2_count_X2_counted : GoodIn wsX2_count wsX2_counted := goodIn_r _ [54, 16, 55, 56, 57, 58, 59, 4, 60, 50, 61, 62, 63, 64, 14, 65, 66, 67, 68, 69, 70, 71, 72, 73, 74, 2, 3, 5, 75, 76, 77, 78, 79, 80, 81, 82, 83, 84, 85, 86, 87, 36, 37, 38, 39, 40, 41, 42, 43, 44, 30, 31, 21, 32, 45, 46, 47, 48, 49, 88, 89, 90, 91, 15, 92, 93, 94, 95, 96, 97, 98, 99, 100, 101, 102, 103, 104, 105] (by decide +kernel) (by decide +kernel)
set_option maxRecDepth 20000 in
theorem gX2_count_X2_counted : GoodIn wsX2_count (wsV RX2 153 RX2 yX2_counted wsX2_counted) := goodIn_app (goodIn_of _ (by decide +kernel)) ggX2_count_X2_counted
theorem dX2_count_0 : decode cX2_count 0 = .ok (.aload_n 0, 1) := by decide +kernel
theorem dX2_count_1 : decode cX2_count 1 = .ok (.iconst 0, 1) := by decide +kernel
theorem dX2_count_2 : decode cX2_count 2 = .ok (.putfield 34, 3) := by decide +kernel
theorem dX2_count_5 : decode cX2_count 5 = .ok (.iload_n 1, 1) := by decide +kernel
theorem dX2_count_6 : decode cX2_count 6 = .ok (.iconst 0, 1) := by decide +kernel
theorem dX2_count_7 : decode cX2_count 7 = .ok (.bipush 7, 2) := by decide +kernel
theorem dX2_count_9 : decode cX2_count 9 = .ok (.invokestatic 38, 3) := by decide +kernel
theorem dX2_count_12 : decode cX2_count 12 = .ok (.ifCond .ne 9, 3) := by decide +kernel
theorem dX2_count_15 : decode cX2_count 15 = .ok (.aload_n 0, 1) := by decide +kernel
theorem dX2_count_16 : decode cX2_count 16 = .ok (.iconst 1, 1) := by decide +kernel
theorem dX2_count_17 : decode cX2_count 17 = .ok (.invokevirtual 93, 3) := by decide +kernel
theorem dX2_count_20 : decode cX2_count 20 = .ok (.ireturn, 1) := by decide +kernel
theorem dX2_count_21 : decode cX2_count 21 = .ok (.aload_n 0, 1) := by decide +kernel
theorem dX2_count_22 : decode cX2_count 22 = .ok (.invokevirtual 103, 3) := by decide +kernel
theorem dX2_count_25 : decode cX2_count 25 = .ok (.pop, 1) := by decide +kernel
theorem dX2_count_26 : decode cX2_count 26 = .ok (.aload_n 0, 1) := by decide +kernel
theorem dX2_count_27 : decode cX2_count 27 = .ok (.iload_n 1, 1) := by decide +kernel
theorem dX2_count_28 : decode cX2_count 28 = .ok (.invokevirtual 153, 3) := by decide +kernel
theorem dX2_count_31 : decode cX2_count 31 = .ok (.ireturn, 1) := by decide +kernel
set_option maxRecDepth 20000 in
theorem ggX2_areCells_X2_isIn : GoodIn wsX2_areCells wsX2_isIn := goodIn_r _ [4] (by decide +kernel) (by decide +kernel)
set_option maxRecDepth 20000 in
theorem gX2_areCells_X2_isIn : GoodIn wsX2_areCells (va_wsS RX2 38 yX2_isIn wsX2_isIn) := goodIn_app (goodIn_of _ (by decide +kernel)) ggX2_areCells_X2_isIn
theorem dX2_areCells_0 : decode cX2_areCells 0 = .ok (.iload_n 0, 1) := by decide +kernel
theorem dX2_areCells_1 : decode cX2_areCells 1 = .ok (.iconst 0, 1) := by decide +kernel
theorem dX2_areCells_2 : decode cX2_areCells 2 = .ok (.sipush 143, 3) := by decide +kernel
theorem dX2_areCells_5 : decode cX2_areCells 5 = .ok (.invokestatic 38, 3) := by decide +kernel
theorem dX2_areCells_8 : decode cX2_areCells 8 = .ok (.ifCond .eq 18, 3) := by decide +kernel
theorem dX2_areCells_11 : decode cX2_areCells 11 = .ok (.iload_n 1, 1) := by decide +kernel
theorem dX2_areCells_12 : decode cX2_areCells 12 = .ok (.iconst 0, 1) := by decide +kernel
theorem dX2_areCells_13 : decode cX2_areCells 13 = .ok (.sipush 143, 3) := by decide +kernel
theorem dX2_areCells_16 : decode cX2_areCells 16 = .ok (.invokestatic 38, 3) := by decide +kernel
theorem dX2_areCells_19 : decode cX2_areCells 19 = .ok (.ifCond .eq 7, 3) := by decide +kernel
theorem dX2_areCells_22 : decode cX2_areCells 22 = .ok (.iconst 1, 1) := by decide +kernel
theorem dX2_areCells_23 : decode cX2_areCells 23 = .ok (.goto 4, 3) := by decide +kernel
theorem dX2_areCells_26 : decode cX2_areCells 26 = .ok (.iconst 0, 1) := by decide +kernel
theorem dX2_areCells_27 : decode cX2_areCells 27 = .ok (.ireturn, 1) := by decide +kernel
set_option maxRecDepth 20000 in
theorem ggX2_far_X2_areCells : GoodIn wsX2_far wsX2_areCells := goodIn_r _ [6, 7, 8, 5, 9] (by decide +kernel) (by decide +kernel)
set_option maxRecDepth 20000 in
theorem gX2_far_X2_areCells : GoodIn wsX2_far (va_wsS RX2 156 yX2_areCells wsX2_areCells) := goodIn_app (goodIn_of _ (by decide +kernel)) ggX2_far_X2_areCells
set_option maxRecDepth 20000 in
theorem ggX2_far_X2_no : GoodIn wsX2_far wsX2_no := goodIn_r _ [13, 1, 28, 29, 30, 31, 32, 33, 34, 35, 36, 37, 38, 39, 40, 41] (by decide +kernel) (by decide +kernel)
set_option maxRecDepth 20000 in
theorem gX2_far_X2_no : GoodIn wsX2_far (wsV RX2 93 RX2 yX2_no wsX2_no) := goodIn_app (goodIn_of _ (by decide +kernel)) ggX2_far_X2_no
set_option maxRecDepth 20000 in
theorem ggX2_far_X2_go : GoodIn wsX2_far wsX2_go := goodIn_r _ [17, 18, 19, 20, 21, 22, 2, 23, 24, 25, 5, 26, 27, 28, 29, 30, 31, 32, 33, 34, 35, 36, 37, 38, 39, 40, 41] (by decide +kernel) (by decide +kernel)
set_option maxRecDepth 20000 in
theorem gX2_far_X2_go : GoodIn wsX2_far (wsV RX2 63 RX2 yX2_go wsX2_go) := goodIn_app (goodIn_of _ (by decide +kernel)) ggX2_far_X2_go
theorem dX2_far_0 : decode cX2_far 0 = .ok (.aload_n 0, 1) := by decide +kernel
theorem dX2_far_1 : decode cX2_far 1 = .ok (.iconst 0, 1) := by decide +kernel
theorem dX2_far_2 : decode cX2_far 2 = .ok (.putfield 34, 3) := by decide +kernel
theorem dX2_far_5 : decode cX2_far 5 = .ok (.iload_n 1, 1) := by decide +kernel
theorem dX2_far_6 : decode cX2_far 6 = .ok (.iload_n 2, 1) := by decide +kernel
theorem dX2_far_7 : decode cX2_far 7 = .ok (.invokestatic 156, 3) := by decide +kernel
theorem dX2_far_10 : decode cX2_far 10 = .ok (.ifCond .ne 9, 3) := by decide +kernel
theorem dX2_far_13 : decode cX2_far 13 = .ok (.aload_n 0, 1) := by decide +kernel
theorem dX2_far_14 : decode cX2_far 14 = .ok (.iconst 1, 1) := by decide +kernel
theorem dX2_far_15 : decode cX2_far 15 = .ok (.invokevirtual 93, 3) := by decide +kernel
theorem dX2_far_18 : decode cX2_far 18 = .ok (.ireturn, 1) := by decide +kernel
theorem dX2_far_19 : decode cX2_far 19 = .ok (.aload_n 0, 1) := by decide +kernel
theorem dX2_far_20 : decode cX2_far 20 = .ok (.iload_n 1, 1) := by decide +kernel
theorem dX2_far_21 : decode cX2_far 21 = .ok (.iload_n 2, 1) := by decide +kernel
theorem dX2_far_22 : decode cX2_far 22 = .ok (.invokevirtual 63, 3) := by decide +kernel
theorem dX2_far_25 : decode cX2_far 25 = .ok (.aload_n 0, 1) := by decide +kernel
theorem dX2_far_26 : decode cX2_far 26 = .ok (.getfield 57, 3) := by decide +kernel
theorem dX2_far_29 : decode cX2_far 29 = .ok (.ireturn, 1) := by decide +kernel
set_option maxRecDepth 20000 in
theorem ggX2_stops_X2_areCells : GoodIn wsX2_stops wsX2_areCells := goodIn_r _ [5, 6, 7, 4, 8] (by decide +kernel) (by decide +kernel)
set_option maxRecDepth 20000 in
theorem gX2_stops_X2_areCells : GoodIn wsX2_stops (va_wsS RX2 156 yX2_areCells wsX2_areCells) := goodIn_app (goodIn_of _ (by decide +kernel)) ggX2_stops_X2_areCells
set_option maxRecDepth 20000 in
theorem ggX2_stops_X2_stopsOn : GoodIn wsX2_stops wsX2_stopsOn := goodIn_r _ [12, 13, 14, 15, 16, 4, 17, 18, 19, 20, 21, 22, 23, 24, 25, 26, 27, 32, 33, 34, 35, 36, 37, 38, 39, 40, 41, 42, 43, 44, 45] (by decide +kernel) (by decide +kernel)
set_option maxRecDepth 20000 in
theorem gX2_stops_X2_stopsOn : GoodIn wsX2_stops (wsV RX2 74 RX2 yX2_stopsOn wsX2_stopsOn) := goodIn_app (goodIn_of _ (by decide +kernel)) ggX2_stops_X2_stopsOn
set_option maxRecDepth 20000 in
theorem ggX2_stops_X2_no : GoodIn wsX2_stops wsX2_no := goodIn_r _ [31, 1, 32, 33, 34, 35, 36, 37, 38, 39, 40, 41, 42, 43, 44, 45] (by decide +kernel) (by decide +kernel)
set_option maxRecDepth 20000 in
theorem gX2_stops_X2_no : GoodIn wsX2_stops (wsV RX2 93 RX2 yX2_no wsX2_no) := goodIn_app (goodIn_of _ (by decide +kernel)) ggX2_stops_X2_no
theorem dX2_stops_0 : decode cX2_stops 0 = .ok (.aload_n 0, 1) := by decide +kernel
theorem dX2_stops_1 : decode cX2_stops 1 = .ok (.iconst 0, 1) := by decide +kernel
theorem dX2_stops_2 : decode cX2_stops 2 = .ok (.putfield 34, 3) := by decide +kernel
theorem dX2_stops_5 : decode cX2_stops 5 = .ok (.iload_n 1, 1) := by decide +kernel
theorem dX2_stops_6 : decode cX2_stops 6 = .ok (.iload_n 2, 1) := by decide +kernel
theorem dX2_stops_7 : decode cX2_stops 7 = .ok (.invokestatic 156, 3) := by decide +kernel
theorem dX2_stops_10 : decode cX2_stops 10 = .ok (.ifCond .eq 12, 3) := by decide +kernel
theorem dX2_stops_13 : decode cX2_stops 13 = .ok (.aload_n 0, 1) := by decide +kernel
theorem dX2_stops_14 : decode cX2_stops 14 = .ok (.iload_n 1, 1) := by decide +kernel
theorem dX2_stops_15 : decode cX2_stops 15 = .ok (.iload_n 2, 1) := by decide +kernel
theorem dX2_stops_16 : decode cX2_stops 16 = .ok (.invokevirtual 74, 3) := by decide +kernel
theorem dX2_stops_19 : decode cX2_stops 19 = .ok (.goto 8, 3) := by decide +kernel
theorem dX2_stops_22 : decode cX2_stops 22 = .ok (.aload_n 0, 1) := by decide +kernel
theorem dX2_stops_23 : decode cX2_stops 23 = .ok (.iconst 1, 1) := by decide +kernel
theorem dX2_stops_24 : decode cX2_stops 24 = .ok (.invokevirtual 93, 3) := by decide +kernel
theorem dX2_stops_27 : decode cX2_stops 27 = .ok (.ireturn, 1) := by decide +kernel
set_option maxRecDepth 20000 in
theorem ggX2_creeps_X2_isWatcher : GoodIn wsX2_creeps wsX2_isWatcher := goodIn_r _ [7, 8, 9, 10, 6, 11, 69, 70, 71, 72, 73, 74, 75, 76, 77, 78, 79, 80, 81, 82] (by decide +kernel) (by decide +kernel)
set_option maxRecDepth 20000 in
theorem gX2_creeps_X2_isWatcher : GoodIn wsX2_creeps (wsV RX2 107 RX2 yX2_isWatcher wsX2_isWatcher) := goodIn_app (goodIn_of _ (by decide +kernel)) ggX2_creeps_X2_isWatcher
set_option maxRecDepth 20000 in
theorem ggX2_creeps_X2_isCell : GoodIn wsX2_creeps wsX2_isCell := goodIn_r _ [14, 9, 10, 6, 11] (by decide +kernel) (by decide +kernel)
set_option maxRecDepth 20000 in
theorem gX2_creeps_X2_isCell : GoodIn wsX2_creeps (va_wsS RX2 87 yX2_isCell wsX2_isCell) := goodIn_app (goodIn_of _ (by decide +kernel)) ggX2_creeps_X2_isCell
set_option maxRecDepth 20000 in
theorem ggX2_creeps_X2_no : GoodIn wsX2_creeps wsX2_no := goodIn_r _ [18, 1, 69, 70, 71, 72, 73, 74, 75, 76, 77, 78, 79, 80, 81, 82] (by decide +kernel) (by decide +kernel)
set_option maxRecDepth 20000 in
theorem gX2_creeps_X2_no : GoodIn wsX2_creeps (wsV RX2 93 RX2 yX2_no wsX2_no) := goodIn_app (goodIn_of _ (by decide +kernel)) ggX2_creeps_X2_no
set_option maxRecDepth 20000 in
theorem ggX2_creeps_X2_look : GoodIn wsX2_creeps wsX2_look := goodIn_r _ [22, 23, 24, 25, 26, 27, 28, 29, 30, 31, 32, 33, 34, 6, 35, 36, 37, 38, 39, 40, 41, 42, 43, 44, 45, 46, 47, 48, 49, 50, 51, 52, 53, 54, 55, 56, 57, 58, 59, 69, 70, 71, 72, 73, 74, 75, 76, 77, 78, 79, 80, 81, 82] (by decide +kernel) (by decide +kernel)
set_option maxRecDepth 20000 in
theorem gX2_creeps_X2_look : GoodIn wsX2_creeps (wsV RX2 103 RX2 yX2_look wsX2_look) := goodIn_app (goodIn_of _ (by decide +kernel)) ggX2_creeps_X2_look
set_option maxRecDepth 20000 in
theorem ggX2_creeps_X2_stepsTo : GoodIn wsX2_creeps wsX2_stepsTo := goodIn_r _ [63, 64, 65, 59, 23, 66, 67, 6, 68, 12, 13, 14, 9, 10, 11, 69, 70, 71, 72, 73, 74, 75, 76, 77, 78, 79, 80, 81, 82] (by decide +kernel) (by decide +kernel)
set_option maxRecDepth 20000 in
theorem gX2_creeps_X2_stepsTo : GoodIn wsX2_creeps (wsV RX2 110 RX2 yX2_stepsTo wsX2_stepsTo) := goodIn_app (goodIn_of _ (by decide +kernel)) ggX2_creeps_X2_stepsTo
theorem dX2_creeps_0 : decode cX2_creeps 0 = .ok (.aload_n 0, 1) := by decide +kernel
theorem dX2_creeps_1 : decode cX2_creeps 1 = .ok (.iconst 0, 1) := by decide +kernel
theorem dX2_creeps_2 : decode cX2_creeps 2 = .ok (.putfield 34, 3) := by decide +kernel
theorem dX2_creeps_5 : decode cX2_creeps 5 = .ok (.aload_n 0, 1) := by decide +kernel
theorem dX2_creeps_6 : decode cX2_creeps 6 = .ok (.iload_n 1, 1) := by decide +kernel
theorem dX2_creeps_7 : decode cX2_creeps 7 = .ok (.invokevirtual 107, 3) := by decide +kernel
theorem dX2_creeps_10 : decode cX2_creeps 10 = .ok (.ifCond .eq 11, 3) := by decide +kernel
theorem dX2_creeps_13 : decode cX2_creeps 13 = .ok (.iload_n 2, 1) := by decide +kernel
theorem dX2_creeps_14 : decode cX2_creeps 14 = .ok (.iload_n 3, 1) := by decide +kernel
theorem dX2_creeps_15 : decode cX2_creeps 15 = .ok (.invokestatic 87, 3) := by decide +kernel
theorem dX2_creeps_18 : decode cX2_creeps 18 = .ok (.ifCond .ne 9, 3) := by decide +kernel
theorem dX2_creeps_21 : decode cX2_creeps 21 = .ok (.aload_n 0, 1) := by decide +kernel
theorem dX2_creeps_22 : decode cX2_creeps 22 = .ok (.iconst 1, 1) := by decide +kernel
theorem dX2_creeps_23 : decode cX2_creeps 23 = .ok (.invokevirtual 93, 3) := by decide +kernel
theorem dX2_creeps_26 : decode cX2_creeps 26 = .ok (.ireturn, 1) := by decide +kernel
theorem dX2_creeps_27 : decode cX2_creeps 27 = .ok (.aload_n 0, 1) := by decide +kernel
theorem dX2_creeps_28 : decode cX2_creeps 28 = .ok (.invokevirtual 103, 3) := by decide +kernel
theorem dX2_creeps_31 : decode cX2_creeps 31 = .ok (.pop, 1) := by decide +kernel
theorem dX2_creeps_32 : decode cX2_creeps 32 = .ok (.aload_n 0, 1) := by decide +kernel
theorem dX2_creeps_33 : decode cX2_creeps 33 = .ok (.aload_n 0, 1) := by decide +kernel
theorem dX2_creeps_34 : decode cX2_creeps 34 = .ok (.getfield 19, 3) := by decide +kernel
theorem dX2_creeps_37 : decode cX2_creeps 37 = .ok (.iload_n 1, 1) := by decide +kernel
theorem dX2_creeps_38 : decode cX2_creeps 38 = .ok (.iaload, 1) := by decide +kernel
theorem dX2_creeps_39 : decode cX2_creeps 39 = .ok (.bipush 12, 2) := by decide +kernel
theorem dX2_creeps_41 : decode cX2_creeps 41 = .ok (.iload_n 3, 1) := by decide +kernel
theorem dX2_creeps_42 : decode cX2_creeps 42 = .ok (.imul, 1) := by decide +kernel
theorem dX2_creeps_43 : decode cX2_creeps 43 = .ok (.iload_n 2, 1) := by decide +kernel
theorem dX2_creeps_44 : decode cX2_creeps 44 = .ok (.iadd, 1) := by decide +kernel
theorem dX2_creeps_45 : decode cX2_creeps 45 = .ok (.invokevirtual 110, 3) := by decide +kernel
theorem dX2_creeps_48 : decode cX2_creeps 48 = .ok (.ireturn, 1) := by decide +kernel
set_option maxRecDepth 20000 in
theorem ggX2_would_X2_isCell : GoodIn wsX2_would wsX2_isCell := goodIn_r _ [6, 7, 8, 5, 9] (by decide +kernel) (by decide +kernel)
set_option maxRecDepth 20000 in
theorem gX2_would_X2_isCell : GoodIn wsX2_would (va_wsS RX2 87 yX2_isCell wsX2_isCell) := goodIn_app (goodIn_of _ (by decide +kernel)) ggX2_would_X2_isCell
set_option maxRecDepth 20000 in
theorem ggX2_would_X2_no : GoodIn wsX2_would wsX2_no := goodIn_r _ [13, 1, 54, 55, 56, 57, 58, 59, 60, 61, 62, 63, 64, 65, 66, 67] (by decide +kernel) (by decide +kernel)
set_option maxRecDepth 20000 in
theorem gX2_would_X2_no : GoodIn wsX2_would (wsV RX2 93 RX2 yX2_no wsX2_no) := goodIn_app (goodIn_of _ (by decide +kernel)) ggX2_would_X2_no
set_option maxRecDepth 20000 in
theorem ggX2_would_X2_isIn : GoodIn wsX2_would wsX2_isIn := goodIn_r _ [9] (by decide +kernel) (by decide +kernel)
set_option maxRecDepth 20000 in
theorem gX2_would_X2_isIn : GoodIn wsX2_would (va_wsS RX2 38 yX2_isIn wsX2_isIn) := goodIn_app (goodIn_of _ (by decide +kernel)) ggX2_would_X2_isIn
set_option maxRecDepth 20000 in
theorem ggX2_would_X2_look : GoodIn wsX2_would wsX2_look := goodIn_r _ [17, 18, 19, 20, 21, 22, 23, 24, 25, 26, 27, 28, 29, 5, 30, 31, 32, 33, 34, 35, 36, 37, 38, 39, 40, 41, 42, 43, 44, 45, 46, 47, 48, 49, 50, 51, 52, 53, 2, 54, 55, 56, 57, 58, 59, 60, 61, 62, 63, 64, 65, 66, 67] (by decide +kernel) (by decide +kernel)
set_option maxRecDepth 20000 in
theorem gX2_would_X2_look : GoodIn wsX2_would (wsV RX2 103 RX2 yX2_look wsX2_look) := goodIn_app (goodIn_of _ (by decide +kernel)) ggX2_would_X2_look
theorem dX2_would_0 : decode cX2_would 0 = .ok (.aload_n 0, 1) := by decide +kernel
theorem dX2_would_1 : decode cX2_would 1 = .ok (.iconst 0, 1) := by decide +kernel
theorem dX2_would_2 : decode cX2_would 2 = .ok (.putfield 34, 3) := by decide +kernel
theorem dX2_would_5 : decode cX2_would 5 = .ok (.iload_n 1, 1) := by decide +kernel
theorem dX2_would_6 : decode cX2_would 6 = .ok (.iload_n 2, 1) := by decide +kernel
theorem dX2_would_7 : decode cX2_would 7 = .ok (.invokestatic 87, 3) := by decide +kernel
theorem dX2_would_10 : decode cX2_would 10 = .ok (.ifCond .ne 9, 3) := by decide +kernel
theorem dX2_would_13 : decode cX2_would 13 = .ok (.aload_n 0, 1) := by decide +kernel
theorem dX2_would_14 : decode cX2_would 14 = .ok (.iconst 1, 1) := by decide +kernel
theorem dX2_would_15 : decode cX2_would 15 = .ok (.invokevirtual 93, 3) := by decide +kernel
theorem dX2_would_18 : decode cX2_would 18 = .ok (.ireturn, 1) := by decide +kernel
theorem dX2_would_19 : decode cX2_would 19 = .ok (.iload_n 3, 1) := by decide +kernel
theorem dX2_would_20 : decode cX2_would 20 = .ok (.iconst 0, 1) := by decide +kernel
theorem dX2_would_21 : decode cX2_would 21 = .ok (.iconst 3, 1) := by decide +kernel
theorem dX2_would_22 : decode cX2_would 22 = .ok (.invokestatic 38, 3) := by decide +kernel
theorem dX2_would_25 : decode cX2_would 25 = .ok (.ifCond .ne 9, 3) := by decide +kernel
theorem dX2_would_28 : decode cX2_would 28 = .ok (.aload_n 0, 1) := by decide +kernel
theorem dX2_would_29 : decode cX2_would 29 = .ok (.iconst 2, 1) := by decide +kernel
theorem dX2_would_30 : decode cX2_would 30 = .ok (.invokevirtual 93, 3) := by decide +kernel
theorem dX2_would_33 : decode cX2_would 33 = .ok (.ireturn, 1) := by decide +kernel
theorem dX2_would_34 : decode cX2_would 34 = .ok (.aload_n 0, 1) := by decide +kernel
theorem dX2_would_35 : decode cX2_would 35 = .ok (.invokevirtual 103, 3) := by decide +kernel
theorem dX2_would_38 : decode cX2_would 38 = .ok (.istore 4, 2) := by decide +kernel
theorem dX2_would_40 : decode cX2_would 40 = .ok (.aload_n 0, 1) := by decide +kernel
theorem dX2_would_41 : decode cX2_would 41 = .ok (.getfield 9, 3) := by decide +kernel
theorem dX2_would_44 : decode cX2_would 44 = .ok (.bipush 12, 2) := by decide +kernel
theorem dX2_would_46 : decode cX2_would 46 = .ok (.iload_n 2, 1) := by decide +kernel
theorem dX2_would_47 : decode cX2_would 47 = .ok (.imul, 1) := by decide +kernel
theorem dX2_would_48 : decode cX2_would 48 = .ok (.iload_n 1, 1) := by decide +kernel
theorem dX2_would_49 : decode cX2_would 49 = .ok (.iadd, 1) := by decide +kernel
theorem dX2_would_50 : decode cX2_would 50 = .ok (.iaload, 1) := by decide +kernel
theorem dX2_would_51 : decode cX2_would 51 = .ok (.istore 5, 2) := by decide +kernel
theorem dX2_would_53 : decode cX2_would 53 = .ok (.aload_n 0, 1) := by decide +kernel
theorem dX2_would_54 : decode cX2_would 54 = .ok (.getfield 9, 3) := by decide +kernel
theorem dX2_would_57 : decode cX2_would 57 = .ok (.bipush 12, 2) := by decide +kernel
theorem dX2_would_59 : decode cX2_would 59 = .ok (.iload_n 2, 1) := by decide +kernel
theorem dX2_would_60 : decode cX2_would 60 = .ok (.imul, 1) := by decide +kernel
theorem dX2_would_61 : decode cX2_would 61 = .ok (.iload_n 1, 1) := by decide +kernel
theorem dX2_would_62 : decode cX2_would 62 = .ok (.iadd, 1) := by decide +kernel
theorem dX2_would_63 : decode cX2_would 63 = .ok (.iload_n 3, 1) := by decide +kernel
theorem dX2_would_64 : decode cX2_would 64 = .ok (.iastore, 1) := by decide +kernel
theorem dX2_would_65 : decode cX2_would 65 = .ok (.aload_n 0, 1) := by decide +kernel
theorem dX2_would_66 : decode cX2_would 66 = .ok (.invokevirtual 103, 3) := by decide +kernel
theorem dX2_would_69 : decode cX2_would 69 = .ok (.istore 6, 2) := by decide +kernel
theorem dX2_would_71 : decode cX2_would 71 = .ok (.aload_n 0, 1) := by decide +kernel
theorem dX2_would_72 : decode cX2_would 72 = .ok (.getfield 9, 3) := by decide +kernel
theorem dX2_would_75 : decode cX2_would 75 = .ok (.bipush 12, 2) := by decide +kernel
theorem dX2_would_77 : decode cX2_would 77 = .ok (.iload_n 2, 1) := by decide +kernel
theorem dX2_would_78 : decode cX2_would 78 = .ok (.imul, 1) := by decide +kernel
theorem dX2_would_79 : decode cX2_would 79 = .ok (.iload_n 1, 1) := by decide +kernel
theorem dX2_would_80 : decode cX2_would 80 = .ok (.iadd, 1) := by decide +kernel
theorem dX2_would_81 : decode cX2_would 81 = .ok (.iload 5, 2) := by decide +kernel
theorem dX2_would_83 : decode cX2_would 83 = .ok (.iastore, 1) := by decide +kernel
theorem dX2_would_84 : decode cX2_would 84 = .ok (.iload 6, 2) := by decide +kernel
theorem dX2_would_86 : decode cX2_would 86 = .ok (.iload 4, 2) := by decide +kernel
theorem dX2_would_88 : decode cX2_would 88 = .ok (.isub, 1) := by decide +kernel
theorem dX2_would_89 : decode cX2_would 89 = .ok (.ireturn, 1) := by decide +kernel
set_option maxRecDepth 20000 in
theorem ggX2_advise_X2_isLamp : GoodIn wsX2_advise wsX2_isLamp := goodIn_r _ [8, 9, 10, 11, 7, 12, 66, 67, 68, 69, 70, 71, 72, 73, 74, 75, 76, 77, 78, 79] (by decide +kernel) (by decide +kernel)
set_option maxRecDepth 20000 in
theorem gX2_advise_X2_isLamp : GoodIn wsX2_advise (wsV RX2 99 RX2 yX2_isLamp wsX2_isLamp) := goodIn_app (goodIn_of _ (by decide +kernel)) ggX2_advise_X2_isLamp
set_option maxRecDepth 20000 in
theorem ggX2_advise_X2_no : GoodIn wsX2_advise wsX2_no := goodIn_r _ [16, 1, 66, 67, 68, 69, 70, 71, 72, 73, 74, 75, 76, 77, 78, 79] (by decide +kernel) (by decide +kernel)
set_option maxRecDepth 20000 in
theorem gX2_advise_X2_no : GoodIn wsX2_advise (wsV RX2 93 RX2 yX2_no wsX2_no) := goodIn_app (goodIn_of _ (by decide +kernel)) ggX2_advise_X2_no
set_option maxRecDepth 20000 in
theorem ggX2_advise_X2_look : GoodIn wsX2_advise wsX2_look := goodIn_r _ [20, 21, 22, 9, 23, 2, 24, 25, 26, 27, 28, 29, 30, 7, 31, 32, 33, 34, 35, 36, 37, 38, 39, 40, 41, 42, 43, 44, 45, 46, 47, 48, 49, 50, 51, 52, 53, 54, 55, 66, 67, 68, 69, 70, 71, 72, 73, 74, 75, 76, 77, 78, 79] (by decide +kernel) (by decide +kernel)
set_option maxRecDepth 20000 in
theorem gX2_advise_X2_look : GoodIn wsX2_advise (wsV RX2 103 RX2 yX2_look wsX2_look) := goodIn_app (goodIn_of _ (by decide +kernel)) ggX2_advise_X2_look
set_option maxRecDepth 20000 in
theorem ggX2_advise_X2_beside : GoodIn wsX2_advise wsX2_beside := goodIn_r _ [58, 59, 60, 7, 61, 10, 11, 12] (by decide +kernel) (by decide +kernel)
set_option maxRecDepth 20000 in
theorem gX2_advise_X2_beside : GoodIn wsX2_advise (va_wsS RX2 90 yX2_beside wsX2_beside) := goodIn_app (goodIn_of _ (by decide +kernel)) ggX2_advise_X2_beside
set_option maxRecDepth 20000 in
theorem ggX2_advise_X2_lampOn : GoodIn wsX2_advise wsX2_lampOn := goodIn_r _ [65, 9, 2, 66, 67, 68, 69, 70, 71, 72, 73, 74, 75, 76, 77, 78, 79] (by decide +kernel) (by decide +kernel)
set_option maxRecDepth 20000 in
theorem gX2_advise_X2_lampOn : GoodIn wsX2_advise (wsV RX2 96 RX2 yX2_lampOn wsX2_lampOn) := goodIn_app (goodIn_of _ (by decide +kernel)) ggX2_advise_X2_lampOn
theorem dX2_advise_0 : decode cX2_advise 0 = .ok (.aload_n 0, 1) := by decide +kernel
theorem dX2_advise_1 : decode cX2_advise 1 = .ok (.iconst 0, 1) := by decide +kernel
theorem dX2_advise_2 : decode cX2_advise 2 = .ok (.putfield 34, 3) := by decide +kernel
theorem dX2_advise_5 : decode cX2_advise 5 = .ok (.aload_n 0, 1) := by decide +kernel
theorem dX2_advise_6 : decode cX2_advise 6 = .ok (.iload_n 1, 1) := by decide +kernel
theorem dX2_advise_7 : decode cX2_advise 7 = .ok (.invokevirtual 99, 3) := by decide +kernel
theorem dX2_advise_10 : decode cX2_advise 10 = .ok (.ifCond .ne 9, 3) := by decide +kernel
theorem dX2_advise_13 : decode cX2_advise 13 = .ok (.aload_n 0, 1) := by decide +kernel
theorem dX2_advise_14 : decode cX2_advise 14 = .ok (.iconst 1, 1) := by decide +kernel
theorem dX2_advise_15 : decode cX2_advise 15 = .ok (.invokevirtual 93, 3) := by decide +kernel
theorem dX2_advise_18 : decode cX2_advise 18 = .ok (.ireturn, 1) := by decide +kernel
theorem dX2_advise_19 : decode cX2_advise 19 = .ok (.aload_n 0, 1) := by decide +kernel
theorem dX2_advise_20 : decode cX2_advise 20 = .ok (.getfield 13, 3) := by decide +kernel
theorem dX2_advise_23 : decode cX2_advise 23 = .ok (.iload_n 1, 1) := by decide +kernel
theorem dX2_advise_24 : decode cX2_advise 24 = .ok (.iaload, 1) := by decide +kernel
theorem dX2_advise_25 : decode cX2_advise 25 = .ok (.istore_n 2, 1) := by decide +kernel
theorem dX2_advise_26 : decode cX2_advise 26 = .ok (.aload_n 0, 1) := by decide +kernel
theorem dX2_advise_27 : decode cX2_advise 27 = .ok (.invokevirtual 103, 3) := by decide +kernel
theorem dX2_advise_30 : decode cX2_advise 30 = .ok (.istore_n 3, 1) := by decide +kernel
theorem dX2_advise_31 : decode cX2_advise 31 = .ok (.iconst (-1), 1) := by decide +kernel
theorem dX2_advise_32 : decode cX2_advise 32 = .ok (.istore 4, 2) := by decide +kernel
theorem dX2_advise_34 : decode cX2_advise 34 = .ok (.iconst 4, 1) := by decide +kernel
theorem dX2_advise_35 : decode cX2_advise 35 = .ok (.newarray .int, 2) := by decide +kernel
theorem dX2_advise_37 : decode cX2_advise 37 = .ok (.dup, 1) := by decide +kernel
theorem dX2_advise_38 : decode cX2_advise 38 = .ok (.iconst 0, 1) := by decide +kernel
theorem dX2_advise_39 : decode cX2_advise 39 = .ok (.iconst 2, 1) := by decide +kernel
theorem dX2_advise_40 : decode cX2_advise 40 = .ok (.iastore, 1) := by decide +kernel
theorem dX2_advise_41 : decode cX2_advise 41 = .ok (.dup, 1) := by decide +kernel
theorem dX2_advise_42 : decode cX2_advise 42 = .ok (.iconst 1, 1) := by decide +kernel
theorem dX2_advise_43 : decode cX2_advise 43 = .ok (.iconst 0, 1) := by decide +kernel
theorem dX2_advise_44 : decode cX2_advise 44 = .ok (.iastore, 1) := by decide +kernel
theorem dX2_advise_45 : decode cX2_advise 45 = .ok (.dup, 1) := by decide +kernel
theorem dX2_advise_46 : decode cX2_advise 46 = .ok (.iconst 2, 1) := by decide +kernel
theorem dX2_advise_47 : decode cX2_advise 47 = .ok (.iconst 1, 1) := by decide +kernel
theorem dX2_advise_48 : decode cX2_advise 48 = .ok (.iastore, 1) := by decide +kernel
theorem dX2_advise_49 : decode cX2_advise 49 = .ok (.dup, 1) := by decide +kernel
theorem dX2_advise_50 : decode cX2_advise 50 = .ok (.iconst 3, 1) := by decide +kernel
theorem dX2_advise_51 : decode cX2_advise 51 = .ok (.iconst 3, 1) := by decide +kernel
theorem dX2_advise_52 : decode cX2_advise 52 = .ok (.iastore, 1) := by decide +kernel
theorem dX2_advise_53 : decode cX2_advise 53 = .ok (.astore 5, 2) := by decide +kernel
theorem dX2_advise_55 : decode cX2_advise 55 = .ok (.aload 5, 2) := by decide +kernel
theorem dX2_advise_57 : decode cX2_advise 57 = .ok (.astore 6, 2) := by decide +kernel
theorem dX2_advise_59 : decode cX2_advise 59 = .ok (.aload 6, 2) := by decide +kernel
theorem dX2_advise_61 : decode cX2_advise 61 = .ok (.arraylength, 1) := by decide +kernel
theorem dX2_advise_62 : decode cX2_advise 62 = .ok (.istore 7, 2) := by decide +kernel
theorem dX2_advise_64 : decode cX2_advise 64 = .ok (.iconst 0, 1) := by decide +kernel
theorem dX2_advise_65 : decode cX2_advise 65 = .ok (.istore 8, 2) := by decide +kernel
theorem dX2_advise_67 : decode cX2_advise 67 = .ok (.iload 8, 2) := by decide +kernel
theorem dX2_advise_69 : decode cX2_advise 69 = .ok (.iload 7, 2) := by decide +kernel
theorem dX2_advise_71 : decode cX2_advise 71 = .ok (.if_icmp .ge 80, 3) := by decide +kernel
theorem dX2_advise_74 : decode cX2_advise 74 = .ok (.aload 6, 2) := by decide +kernel
theorem dX2_advise_76 : decode cX2_advise 76 = .ok (.iload 8, 2) := by decide +kernel
theorem dX2_advise_78 : decode cX2_advise 78 = .ok (.iaload, 1) := by decide +kernel
theorem dX2_advise_79 : decode cX2_advise 79 = .ok (.istore 9, 2) := by decide +kernel
theorem dX2_advise_81 : decode cX2_advise 81 = .ok (.iload_n 2, 1) := by decide +kernel
theorem dX2_advise_82 : decode cX2_advise 82 = .ok (.iload 9, 2) := by decide +kernel
theorem dX2_advise_84 : decode cX2_advise 84 = .ok (.invokestatic 90, 3) := by decide +kernel
theorem dX2_advise_87 : decode cX2_advise 87 = .ok (.istore 10, 2) := by decide +kernel
theorem dX2_advise_89 : decode cX2_advise 89 = .ok (.iload 10, 2) := by decide +kernel
theorem dX2_advise_91 : decode cX2_advise 91 = .ok (.iconst (-1), 1) := by decide +kernel
theorem dX2_advise_92 : decode cX2_advise 92 = .ok (.if_icmp .eq 53, 3) := by decide +kernel
theorem dX2_advise_95 : decode cX2_advise 95 = .ok (.aload_n 0, 1) := by decide +kernel
theorem dX2_advise_96 : decode cX2_advise 96 = .ok (.iload 10, 2) := by decide +kernel
theorem dX2_advise_98 : decode cX2_advise 98 = .ok (.invokevirtual 96, 3) := by decide +kernel
theorem dX2_advise_101 : decode cX2_advise 101 = .ok (.iconst (-1), 1) := by decide +kernel
theorem dX2_advise_102 : decode cX2_advise 102 = .ok (.if_icmp .eq 6, 3) := by decide +kernel
theorem dX2_advise_105 : decode cX2_advise 105 = .ok (.goto 40, 3) := by decide +kernel
theorem dX2_advise_108 : decode cX2_advise 108 = .ok (.aload_n 0, 1) := by decide +kernel
theorem dX2_advise_109 : decode cX2_advise 109 = .ok (.getfield 13, 3) := by decide +kernel
theorem dX2_advise_112 : decode cX2_advise 112 = .ok (.iload_n 1, 1) := by decide +kernel
theorem dX2_advise_113 : decode cX2_advise 113 = .ok (.iload 10, 2) := by decide +kernel
theorem dX2_advise_115 : decode cX2_advise 115 = .ok (.iastore, 1) := by decide +kernel
theorem dX2_advise_116 : decode cX2_advise 116 = .ok (.aload_n 0, 1) := by decide +kernel
theorem dX2_advise_117 : decode cX2_advise 117 = .ok (.invokevirtual 103, 3) := by decide +kernel
theorem dX2_advise_120 : decode cX2_advise 120 = .ok (.istore 11, 2) := by decide +kernel
theorem dX2_advise_122 : decode cX2_advise 122 = .ok (.aload_n 0, 1) := by decide +kernel
theorem dX2_advise_123 : decode cX2_advise 123 = .ok (.getfield 13, 3) := by decide +kernel
theorem dX2_advise_126 : decode cX2_advise 126 = .ok (.iload_n 1, 1) := by decide +kernel
theorem dX2_advise_127 : decode cX2_advise 127 = .ok (.iload_n 2, 1) := by decide +kernel
theorem dX2_advise_128 : decode cX2_advise 128 = .ok (.iastore, 1) := by decide +kernel
theorem dX2_advise_129 : decode cX2_advise 129 = .ok (.iload 11, 2) := by decide +kernel
theorem dX2_advise_131 : decode cX2_advise 131 = .ok (.iload_n 3, 1) := by decide +kernel
theorem dX2_advise_132 : decode cX2_advise 132 = .ok (.if_icmp .gt 6, 3) := by decide +kernel
theorem dX2_advise_135 : decode cX2_advise 135 = .ok (.goto 10, 3) := by decide +kernel
theorem dX2_advise_138 : decode cX2_advise 138 = .ok (.iload 11, 2) := by decide +kernel
theorem dX2_advise_140 : decode cX2_advise 140 = .ok (.istore_n 3, 1) := by decide +kernel
theorem dX2_advise_141 : decode cX2_advise 141 = .ok (.iload 10, 2) := by decide +kernel
theorem dX2_advise_143 : decode cX2_advise 143 = .ok (.istore 4, 2) := by decide +kernel
theorem dX2_advise_145 : decode cX2_advise 145 = .ok (.iinc 8 1, 3) := by decide +kernel
theorem dX2_advise_148 : decode cX2_advise 148 = .ok (.goto (-81), 3) := by decide +kernel
theorem dX2_advise_151 : decode cX2_advise 151 = .ok (.iload 4, 2) := by decide +kernel
theorem dX2_advise_153 : decode cX2_advise 153 = .ok (.ireturn, 1) := by decide +kernel
set_option maxRecDepth 20000 in
theorem ggX2_darkest_X2_look : GoodIn wsX2_darkest wsX2_look := goodIn_r _ [7, 8, 9, 10, 11, 12, 13, 14, 15, 16, 17, 18, 19, 6, 20, 21, 22, 23, 24, 25, 26, 27, 28, 29, 30, 31, 32, 33, 34, 35, 36, 37, 38, 39, 40, 41, 42, 43, 2, 48, 49, 50, 51, 52, 53, 54, 55, 56, 57, 58, 59, 60, 61] (by decide +kernel) (by decide +kernel)
set_option maxRecDepth 20000 in
theorem gX2_darkest_X2_look : GoodIn wsX2_darkest (wsV RX2 103 RX2 yX2_look wsX2_look) := goodIn_app (goodIn_of _ (by decide +kernel)) ggX2_darkest_X2_look
set_option maxRecDepth 20000 in
theorem ggX2_darkest_X2_rank : GoodIn wsX2_darkest wsX2_rank := goodIn_r _ [47, 8, 9, 48, 49, 50, 51, 52, 53, 54, 55, 56, 57, 58, 59, 60, 61] (by decide +kernel) (by decide +kernel)
set_option maxRecDepth 20000 in
theorem gX2_darkest_X2_rank : GoodIn wsX2_darkest (wsV RX2 159 RX2 yX2_rank wsX2_rank) := goodIn_app (goodIn_of _ (by decide +kernel)) ggX2_darkest_X2_rank
theorem dX2_darkest_0 : decode cX2_darkest 0 = .ok (.aload_n 0, 1) := by decide +kernel
theorem dX2_darkest_1 : decode cX2_darkest 1 = .ok (.iconst 0, 1) := by decide +kernel
theorem dX2_darkest_2 : decode cX2_darkest 2 = .ok (.putfield 34, 3) := by decide +kernel
theorem dX2_darkest_5 : decode cX2_darkest 5 = .ok (.aload_n 0, 1) := by decide +kernel
theorem dX2_darkest_6 : decode cX2_darkest 6 = .ok (.invokevirtual 103, 3) := by decide +kernel
theorem dX2_darkest_9 : decode cX2_darkest 9 = .ok (.pop, 1) := by decide +kernel
theorem dX2_darkest_10 : decode cX2_darkest 10 = .ok (.iconst (-1), 1) := by decide +kernel
theorem dX2_darkest_11 : decode cX2_darkest 11 = .ok (.istore_n 1, 1) := by decide +kernel
theorem dX2_darkest_12 : decode cX2_darkest 12 = .ok (.iconst 0, 1) := by decide +kernel
theorem dX2_darkest_13 : decode cX2_darkest 13 = .ok (.istore_n 2, 1) := by decide +kernel
theorem dX2_darkest_14 : decode cX2_darkest 14 = .ok (.iload_n 2, 1) := by decide +kernel
theorem dX2_darkest_15 : decode cX2_darkest 15 = .ok (.sipush 144, 3) := by decide +kernel
theorem dX2_darkest_18 : decode cX2_darkest 18 = .ok (.if_icmp .ge 38, 3) := by decide +kernel
theorem dX2_darkest_21 : decode cX2_darkest 21 = .ok (.aload_n 0, 1) := by decide +kernel
theorem dX2_darkest_22 : decode cX2_darkest 22 = .ok (.getfield 9, 3) := by decide +kernel
theorem dX2_darkest_25 : decode cX2_darkest 25 = .ok (.iload_n 2, 1) := by decide +kernel
theorem dX2_darkest_26 : decode cX2_darkest 26 = .ok (.iaload, 1) := by decide +kernel
theorem dX2_darkest_27 : decode cX2_darkest 27 = .ok (.ifCond .ne 23, 3) := by decide +kernel
theorem dX2_darkest_30 : decode cX2_darkest 30 = .ok (.iload_n 1, 1) := by decide +kernel
theorem dX2_darkest_31 : decode cX2_darkest 31 = .ok (.iconst (-1), 1) := by decide +kernel
theorem dX2_darkest_32 : decode cX2_darkest 32 = .ok (.if_icmp .eq 16, 3) := by decide +kernel
theorem dX2_darkest_35 : decode cX2_darkest 35 = .ok (.aload_n 0, 1) := by decide +kernel
theorem dX2_darkest_36 : decode cX2_darkest 36 = .ok (.iload_n 2, 1) := by decide +kernel
theorem dX2_darkest_37 : decode cX2_darkest 37 = .ok (.invokevirtual 159, 3) := by decide +kernel
theorem dX2_darkest_40 : decode cX2_darkest 40 = .ok (.aload_n 0, 1) := by decide +kernel
theorem dX2_darkest_41 : decode cX2_darkest 41 = .ok (.iload_n 1, 1) := by decide +kernel
theorem dX2_darkest_42 : decode cX2_darkest 42 = .ok (.invokevirtual 159, 3) := by decide +kernel
theorem dX2_darkest_45 : decode cX2_darkest 45 = .ok (.if_icmp .ge 5, 3) := by decide +kernel
theorem dX2_darkest_48 : decode cX2_darkest 48 = .ok (.iload_n 2, 1) := by decide +kernel
theorem dX2_darkest_49 : decode cX2_darkest 49 = .ok (.istore_n 1, 1) := by decide +kernel
theorem dX2_darkest_50 : decode cX2_darkest 50 = .ok (.iinc 2 1, 3) := by decide +kernel
theorem dX2_darkest_53 : decode cX2_darkest 53 = .ok (.goto (-39), 3) := by decide +kernel
theorem dX2_darkest_56 : decode cX2_darkest 56 = .ok (.iload_n 1, 1) := by decide +kernel
theorem dX2_darkest_57 : decode cX2_darkest 57 = .ok (.ireturn, 1) := by decide +kernel
theorem dX2_rank_0 : decode cX2_rank 0 = .ok (.aload_n 0, 1) := by decide +kernel
theorem dX2_rank_1 : decode cX2_rank 1 = .ok (.getfield 22, 3) := by decide +kernel
theorem dX2_rank_4 : decode cX2_rank 4 = .ok (.iload_n 1, 1) := by decide +kernel
theorem dX2_rank_5 : decode cX2_rank 5 = .ok (.iaload, 1) := by decide +kernel
theorem dX2_rank_6 : decode cX2_rank 6 = .ok (.ifCond .ne 7, 3) := by decide +kernel
theorem dX2_rank_9 : decode cX2_rank 9 = .ok (.iconst (-1), 1) := by decide +kernel
theorem dX2_rank_10 : decode cX2_rank 10 = .ok (.goto 9, 3) := by decide +kernel
theorem dX2_rank_13 : decode cX2_rank 13 = .ok (.aload_n 0, 1) := by decide +kernel
theorem dX2_rank_14 : decode cX2_rank 14 = .ok (.getfield 25, 3) := by decide +kernel
theorem dX2_rank_17 : decode cX2_rank 17 = .ok (.iload_n 1, 1) := by decide +kernel
theorem dX2_rank_18 : decode cX2_rank 18 = .ok (.iaload, 1) := by decide +kernel
theorem dX2_rank_19 : decode cX2_rank 19 = .ok (.ireturn, 1) := by decide +kernel
set_option maxRecDepth 20000 in
theorem ggX2_mean_X2_look : GoodIn wsX2_mean wsX2_look := goodIn_r _ [6, 7, 8, 9, 10, 11, 12, 13, 14, 15, 16, 17, 18, 5, 19, 20, 21, 22, 23, 24, 25, 26, 27, 28, 29, 30, 31, 32, 33, 34, 35, 36, 37, 38, 39, 40, 41, 42, 43, 48, 49, 50, 51, 52, 53, 54, 55, 56, 57, 58, 59, 60, 61] (by decide +kernel) (by decide +kernel)
set_option maxRecDepth 20000 in
theorem gX2_mean_X2_look : GoodIn wsX2_mean (wsV RX2 103 RX2 yX2_look wsX2_look) := goodIn_app (goodIn_of _ (by decide +kernel)) ggX2_mean_X2_look
set_option maxRecDepth 20000 in
theorem ggX2_mean_X2_allBright : GoodIn wsX2_mean wsX2_allBright := goodIn_r _ [47, 8, 48, 49, 50, 51, 52, 53, 54, 55, 56, 57, 58, 59, 60, 61] (by decide +kernel) (by decide +kernel)
set_option maxRecDepth 20000 in
theorem gX2_mean_X2_allBright : GoodIn wsX2_mean (wsV RX2 150 RX2 yX2_allBright wsX2_allBright) := goodIn_app (goodIn_of _ (by decide +kernel)) ggX2_mean_X2_allBright
theorem dX2_mean_0 : decode cX2_mean 0 = .ok (.aload_n 0, 1) := by decide +kernel
theorem dX2_mean_1 : decode cX2_mean 1 = .ok (.iconst 0, 1) := by decide +kernel
theorem dX2_mean_2 : decode cX2_mean 2 = .ok (.putfield 34, 3) := by decide +kernel
theorem dX2_mean_5 : decode cX2_mean 5 = .ok (.aload_n 0, 1) := by decide +kernel
theorem dX2_mean_6 : decode cX2_mean 6 = .ok (.invokevirtual 103, 3) := by decide +kernel
theorem dX2_mean_9 : decode cX2_mean 9 = .ok (.istore_n 1, 1) := by decide +kernel
theorem dX2_mean_10 : decode cX2_mean 10 = .ok (.iload_n 1, 1) := by decide +kernel
theorem dX2_mean_11 : decode cX2_mean 11 = .ok (.ifCond .ne 7, 3) := by decide +kernel
theorem dX2_mean_14 : decode cX2_mean 14 = .ok (.dconst 0, 1) := by decide +kernel
theorem dX2_mean_15 : decode cX2_mean 15 = .ok (.goto 11, 3) := by decide +kernel
theorem dX2_mean_18 : decode cX2_mean 18 = .ok (.aload_n 0, 1) := by decide +kernel
theorem dX2_mean_19 : decode cX2_mean 19 = .ok (.invokevirtual 150, 3) := by decide +kernel
theorem dX2_mean_22 : decode cX2_mean 22 = .ok (.i2d, 1) := by decide +kernel
theorem dX2_mean_23 : decode cX2_mean 23 = .ok (.iload_n 1, 1) := by decide +kernel
theorem dX2_mean_24 : decode cX2_mean 24 = .ok (.i2d, 1) := by decide +kernel
theorem dX2_mean_25 : decode cX2_mean 25 = .ok (.ddiv, 1) := by decide +kernel
theorem dX2_mean_26 : decode cX2_mean 26 = .ok (.dreturn, 1) := by decide +kernel
set_option maxRecDepth 20000 in
theorem ggX2_digest_X2_look : GoodIn wsX2_digest wsX2_look := goodIn_r _ [12, 5, 13, 6, 14, 15, 16, 17, 18, 19, 20, 21, 22, 11, 23, 24, 25, 26, 27, 28, 29, 30, 31, 32, 33, 34, 35, 36, 37, 38, 39, 40, 41, 42, 43, 44, 45, 46, 4, 102, 103, 104, 105, 106, 107, 108, 109, 110, 111, 112, 113, 114, 115] (by decide +kernel) (by decide +kernel)
set_option maxRecDepth 20000 in
theorem gX2_digest_X2_look : GoodIn wsX2_digest (wsV RX2 103 RX2 yX2_look wsX2_look) := goodIn_app (goodIn_of _ (by decide +kernel)) ggX2_digest_X2_look
set_option maxRecDepth 20000 in
theorem ggX2_digest_X2_counted : GoodIn wsX2_digest wsX2_counted := goodIn_r _ [50, 6, 7, 51, 52, 53, 54, 11, 55, 4, 56, 57, 58, 59, 5, 60, 61, 62, 63, 64, 65, 66, 67, 68, 69, 70, 71, 72, 73, 74, 75, 76, 77, 78, 79, 80, 81, 82, 83, 84, 85, 33, 34, 35, 36, 37, 38, 39, 40, 41, 27, 28, 18, 29, 42, 43, 44, 45, 46, 86, 87, 88, 89, 13, 102, 103, 104, 105, 106, 107, 108, 109, 110, 111, 112, 113, 114, 115] (by decide +kernel) (by decide +kernel)
set_option maxRecDepth 20000 in
theorem gX2_digest_X2_counted : GoodIn wsX2_digest (wsV RX2 153 RX2 yX2_counted wsX2_counted) := goodIn_app (goodIn_of _ (by decide +kernel)) ggX2_digest_X2_counted
set_option maxRecDepth 20000 in
theorem ggX2_digest_X2_lampTold : GoodIn wsX2_digest wsX2_lampTold := goodIn_r _ [93, 15, 14, 94, 95, 96, 11, 97, 5, 20, 21, 22, 23, 24, 25, 26, 27, 28, 18, 29, 30, 31, 32, 33, 34, 35, 36, 37, 38, 39, 40, 41, 42, 43, 44, 45, 46, 4, 102, 103, 104, 105, 106, 107, 108, 109, 110, 111, 112, 113, 114, 115] (by decide +kernel) (by decide +kernel)
set_option maxRecDepth 20000 in
theorem gX2_digest_X2_lampTold : GoodIn wsX2_digest (wsV RX2 129 RX2 yX2_lampTold wsX2_lampTold) := goodIn_app (goodIn_of _ (by decide +kernel)) ggX2_digest_X2_lampTold
set_option maxRecDepth 20000 in
theorem ggX2_digest_X2_seatTold : GoodIn wsX2_digest wsX2_seatTold := goodIn_r _ [101, 81, 5, 7, 82, 83, 84, 11, 85, 33, 34, 35, 36, 37, 38, 39, 40, 41, 27, 28, 18, 29, 42, 43, 44, 45, 46, 4, 77, 78, 79, 80, 102, 103, 104, 105, 106, 107, 108, 109, 110, 111, 112, 113, 114, 115] (by decide +kernel) (by decide +kernel)
set_option maxRecDepth 20000 in
theorem gX2_digest_X2_seatTold : GoodIn wsX2_digest (wsV RX2 135 RX2 yX2_seatTold wsX2_seatTold) := goodIn_app (goodIn_of _ (by decide +kernel)) ggX2_digest_X2_seatTold
theorem dX2_digest_0 : decode cX2_digest 0 = .ok (.aload_n 0, 1) := by decide +kernel
theorem dX2_digest_1 : decode cX2_digest 1 = .ok (.iconst 0, 1) := by decide +kernel
theorem dX2_digest_2 : decode cX2_digest 2 = .ok (.putfield 34, 3) := by decide +kernel
theorem dX2_digest_5 : decode cX2_digest 5 = .ok (.aload_n 0, 1) := by decide +kernel
theorem dX2_digest_6 : decode cX2_digest 6 = .ok (.invokevirtual 103, 3) := by decide +kernel
theorem dX2_digest_9 : decode cX2_digest 9 = .ok (.pop, 1) := by decide +kernel
theorem dX2_digest_10 : decode cX2_digest 10 = .ok (.ldc2_w 162, 3) := by decide +kernel
theorem dX2_digest_13 : decode cX2_digest 13 = .ok (.lstore_n 1, 1) := by decide +kernel
theorem dX2_digest_14 : decode cX2_digest 14 = .ok (.iconst 0, 1) := by decide +kernel
theorem dX2_digest_15 : decode cX2_digest 15 = .ok (.istore_n 3, 1) := by decide +kernel
theorem dX2_digest_16 : decode cX2_digest 16 = .ok (.iload_n 3, 1) := by decide +kernel
theorem dX2_digest_17 : decode cX2_digest 17 = .ok (.bipush 8, 2) := by decide +kernel
theorem dX2_digest_19 : decode cX2_digest 19 = .ok (.if_icmp .ge 22, 3) := by decide +kernel
theorem dX2_digest_22 : decode cX2_digest 22 = .ok (.lload_n 1, 1) := by decide +kernel
theorem dX2_digest_23 : decode cX2_digest 23 = .ok (.ldc2_w 164, 3) := by decide +kernel
theorem dX2_digest_26 : decode cX2_digest 26 = .ok (.lmul, 1) := by decide +kernel
theorem dX2_digest_27 : decode cX2_digest 27 = .ok (.aload_n 0, 1) := by decide +kernel
theorem dX2_digest_28 : decode cX2_digest 28 = .ok (.iload_n 3, 1) := by decide +kernel
theorem dX2_digest_29 : decode cX2_digest 29 = .ok (.invokevirtual 153, 3) := by decide +kernel
theorem dX2_digest_32 : decode cX2_digest 32 = .ok (.i2l, 1) := by decide +kernel
theorem dX2_digest_33 : decode cX2_digest 33 = .ok (.ladd, 1) := by decide +kernel
theorem dX2_digest_34 : decode cX2_digest 34 = .ok (.lstore_n 1, 1) := by decide +kernel
theorem dX2_digest_35 : decode cX2_digest 35 = .ok (.iinc 3 1, 3) := by decide +kernel
theorem dX2_digest_38 : decode cX2_digest 38 = .ok (.goto (-22), 3) := by decide +kernel
theorem dX2_digest_41 : decode cX2_digest 41 = .ok (.iconst 0, 1) := by decide +kernel
theorem dX2_digest_42 : decode cX2_digest 42 = .ok (.istore_n 3, 1) := by decide +kernel
theorem dX2_digest_43 : decode cX2_digest 43 = .ok (.iload_n 3, 1) := by decide +kernel
theorem dX2_digest_44 : decode cX2_digest 44 = .ok (.sipush 144, 3) := by decide +kernel
theorem dX2_digest_47 : decode cX2_digest 47 = .ok (.if_icmp .ge 35, 3) := by decide +kernel
theorem dX2_digest_50 : decode cX2_digest 50 = .ok (.lload_n 1, 1) := by decide +kernel
theorem dX2_digest_51 : decode cX2_digest 51 = .ok (.ldc2_w 164, 3) := by decide +kernel
theorem dX2_digest_54 : decode cX2_digest 54 = .ok (.lmul, 1) := by decide +kernel
theorem dX2_digest_55 : decode cX2_digest 55 = .ok (.aload_n 0, 1) := by decide +kernel
theorem dX2_digest_56 : decode cX2_digest 56 = .ok (.getfield 9, 3) := by decide +kernel
theorem dX2_digest_59 : decode cX2_digest 59 = .ok (.iload_n 3, 1) := by decide +kernel
theorem dX2_digest_60 : decode cX2_digest 60 = .ok (.iaload, 1) := by decide +kernel
theorem dX2_digest_61 : decode cX2_digest 61 = .ok (.i2l, 1) := by decide +kernel
theorem dX2_digest_62 : decode cX2_digest 62 = .ok (.ladd, 1) := by decide +kernel
theorem dX2_digest_63 : decode cX2_digest 63 = .ok (.ldc2_w 164, 3) := by decide +kernel
theorem dX2_digest_66 : decode cX2_digest 66 = .ok (.lmul, 1) := by decide +kernel
theorem dX2_digest_67 : decode cX2_digest 67 = .ok (.aload_n 0, 1) := by decide +kernel
theorem dX2_digest_68 : decode cX2_digest 68 = .ok (.getfield 22, 3) := by decide +kernel
theorem dX2_digest_71 : decode cX2_digest 71 = .ok (.iload_n 3, 1) := by decide +kernel
theorem dX2_digest_72 : decode cX2_digest 72 = .ok (.iaload, 1) := by decide +kernel
theorem dX2_digest_73 : decode cX2_digest 73 = .ok (.i2l, 1) := by decide +kernel
theorem dX2_digest_74 : decode cX2_digest 74 = .ok (.ladd, 1) := by decide +kernel
theorem dX2_digest_75 : decode cX2_digest 75 = .ok (.lstore_n 1, 1) := by decide +kernel
theorem dX2_digest_76 : decode cX2_digest 76 = .ok (.iinc 3 1, 3) := by decide +kernel
theorem dX2_digest_79 : decode cX2_digest 79 = .ok (.goto (-36), 3) := by decide +kernel
theorem dX2_digest_82 : decode cX2_digest 82 = .ok (.iconst 0, 1) := by decide +kernel
theorem dX2_digest_83 : decode cX2_digest 83 = .ok (.istore_n 3, 1) := by decide +kernel
theorem dX2_digest_84 : decode cX2_digest 84 = .ok (.iload_n 3, 1) := by decide +kernel
theorem dX2_digest_85 : decode cX2_digest 85 = .ok (.aload_n 0, 1) := by decide +kernel
theorem dX2_digest_86 : decode cX2_digest 86 = .ok (.getfield 42, 3) := by decide +kernel
theorem dX2_digest_89 : decode cX2_digest 89 = .ok (.if_icmp .ge 39, 3) := by decide +kernel
theorem dX2_digest_92 : decode cX2_digest 92 = .ok (.iconst 0, 1) := by decide +kernel
theorem dX2_digest_93 : decode cX2_digest 93 = .ok (.istore 4, 2) := by decide +kernel
theorem dX2_digest_95 : decode cX2_digest 95 = .ok (.iload 4, 2) := by decide +kernel
theorem dX2_digest_97 : decode cX2_digest 97 = .ok (.iconst 4, 1) := by decide +kernel
theorem dX2_digest_98 : decode cX2_digest 98 = .ok (.if_icmp .ge 24, 3) := by decide +kernel
theorem dX2_digest_101 : decode cX2_digest 101 = .ok (.lload_n 1, 1) := by decide +kernel
theorem dX2_digest_102 : decode cX2_digest 102 = .ok (.ldc2_w 164, 3) := by decide +kernel
theorem dX2_digest_105 : decode cX2_digest 105 = .ok (.lmul, 1) := by decide +kernel
theorem dX2_digest_106 : decode cX2_digest 106 = .ok (.aload_n 0, 1) := by decide +kernel
theorem dX2_digest_107 : decode cX2_digest 107 = .ok (.iload_n 3, 1) := by decide +kernel
theorem dX2_digest_108 : decode cX2_digest 108 = .ok (.iload 4, 2) := by decide +kernel
theorem dX2_digest_110 : decode cX2_digest 110 = .ok (.invokevirtual 129, 3) := by decide +kernel
theorem dX2_digest_113 : decode cX2_digest 113 = .ok (.i2l, 1) := by decide +kernel
theorem dX2_digest_114 : decode cX2_digest 114 = .ok (.ladd, 1) := by decide +kernel
theorem dX2_digest_115 : decode cX2_digest 115 = .ok (.lstore_n 1, 1) := by decide +kernel
theorem dX2_digest_116 : decode cX2_digest 116 = .ok (.iinc 4 1, 3) := by decide +kernel
theorem dX2_digest_119 : decode cX2_digest 119 = .ok (.goto (-24), 3) := by decide +kernel
theorem dX2_digest_122 : decode cX2_digest 122 = .ok (.iinc 3 1, 3) := by decide +kernel
theorem dX2_digest_125 : decode cX2_digest 125 = .ok (.goto (-41), 3) := by decide +kernel
theorem dX2_digest_128 : decode cX2_digest 128 = .ok (.iconst 0, 1) := by decide +kernel
theorem dX2_digest_129 : decode cX2_digest 129 = .ok (.istore_n 3, 1) := by decide +kernel
theorem dX2_digest_130 : decode cX2_digest 130 = .ok (.iload_n 3, 1) := by decide +kernel
theorem dX2_digest_131 : decode cX2_digest 131 = .ok (.aload_n 0, 1) := by decide +kernel
theorem dX2_digest_132 : decode cX2_digest 132 = .ok (.getfield 45, 3) := by decide +kernel
theorem dX2_digest_135 : decode cX2_digest 135 = .ok (.if_icmp .ge 39, 3) := by decide +kernel
theorem dX2_digest_138 : decode cX2_digest 138 = .ok (.iconst 0, 1) := by decide +kernel
theorem dX2_digest_139 : decode cX2_digest 139 = .ok (.istore 4, 2) := by decide +kernel
theorem dX2_digest_141 : decode cX2_digest 141 = .ok (.iload 4, 2) := by decide +kernel
theorem dX2_digest_143 : decode cX2_digest 143 = .ok (.iconst 5, 1) := by decide +kernel
theorem dX2_digest_144 : decode cX2_digest 144 = .ok (.if_icmp .ge 24, 3) := by decide +kernel
theorem dX2_digest_147 : decode cX2_digest 147 = .ok (.lload_n 1, 1) := by decide +kernel
theorem dX2_digest_148 : decode cX2_digest 148 = .ok (.ldc2_w 164, 3) := by decide +kernel
theorem dX2_digest_151 : decode cX2_digest 151 = .ok (.lmul, 1) := by decide +kernel
theorem dX2_digest_152 : decode cX2_digest 152 = .ok (.aload_n 0, 1) := by decide +kernel
theorem dX2_digest_153 : decode cX2_digest 153 = .ok (.iload_n 3, 1) := by decide +kernel
theorem dX2_digest_154 : decode cX2_digest 154 = .ok (.iload 4, 2) := by decide +kernel
theorem dX2_digest_156 : decode cX2_digest 156 = .ok (.invokevirtual 135, 3) := by decide +kernel
theorem dX2_digest_159 : decode cX2_digest 159 = .ok (.i2l, 1) := by decide +kernel
theorem dX2_digest_160 : decode cX2_digest 160 = .ok (.ladd, 1) := by decide +kernel
theorem dX2_digest_161 : decode cX2_digest 161 = .ok (.lstore_n 1, 1) := by decide +kernel
theorem dX2_digest_162 : decode cX2_digest 162 = .ok (.iinc 4 1, 3) := by decide +kernel
theorem dX2_digest_165 : decode cX2_digest 165 = .ok (.goto (-24), 3) := by decide +kernel
theorem dX2_digest_168 : decode cX2_digest 168 = .ok (.iinc 3 1, 3) := by decide +kernel
theorem dX2_digest_171 : decode cX2_digest 171 = .ok (.goto (-41), 3) := by decide +kernel
theorem dX2_digest_174 : decode cX2_digest 174 = .ok (.lload_n 1, 1) := by decide +kernel
theorem dX2_digest_175 : decode cX2_digest 175 = .ok (.lreturn, 1) := by decide +kernel
theorem dJ6_bitCount_0f7a4_0 : decode cJ6_bitCount_0f7a4 0 = .ok (.iload_n 0, 1) := by decide +kernel
theorem dJ6_bitCount_0f7a4_1 : decode cJ6_bitCount_0f7a4 1 = .ok (.iload_n 0, 1) := by decide +kernel
theorem dJ6_bitCount_0f7a4_2 : decode cJ6_bitCount_0f7a4 2 = .ok (.iconst 1, 1) := by decide +kernel
theorem dJ6_bitCount_0f7a4_3 : decode cJ6_bitCount_0f7a4 3 = .ok (.iushr, 1) := by decide +kernel
theorem dJ6_bitCount_0f7a4_4 : decode cJ6_bitCount_0f7a4 4 = .ok (.ldc_w 265, 3) := by decide +kernel
theorem dJ6_bitCount_0f7a4_7 : decode cJ6_bitCount_0f7a4 7 = .ok (.iand, 1) := by decide +kernel
theorem dJ6_bitCount_0f7a4_8 : decode cJ6_bitCount_0f7a4 8 = .ok (.isub, 1) := by decide +kernel
theorem dJ6_bitCount_0f7a4_9 : decode cJ6_bitCount_0f7a4 9 = .ok (.istore_n 0, 1) := by decide +kernel
theorem dJ6_bitCount_0f7a4_10 : decode cJ6_bitCount_0f7a4 10 = .ok (.iload_n 0, 1) := by decide +kernel
theorem dJ6_bitCount_0f7a4_11 : decode cJ6_bitCount_0f7a4 11 = .ok (.ldc_w 266, 3) := by decide +kernel
theorem dJ6_bitCount_0f7a4_14 : decode cJ6_bitCount_0f7a4 14 = .ok (.iand, 1) := by decide +kernel
theorem dJ6_bitCount_0f7a4_15 : decode cJ6_bitCount_0f7a4 15 = .ok (.iload_n 0, 1) := by decide +kernel
theorem dJ6_bitCount_0f7a4_16 : decode cJ6_bitCount_0f7a4 16 = .ok (.iconst 2, 1) := by decide +kernel
theorem dJ6_bitCount_0f7a4_17 : decode cJ6_bitCount_0f7a4 17 = .ok (.iushr, 1) := by decide +kernel
theorem dJ6_bitCount_0f7a4_18 : decode cJ6_bitCount_0f7a4 18 = .ok (.ldc_w 266, 3) := by decide +kernel
theorem dJ6_bitCount_0f7a4_21 : decode cJ6_bitCount_0f7a4 21 = .ok (.iand, 1) := by decide +kernel
theorem dJ6_bitCount_0f7a4_22 : decode cJ6_bitCount_0f7a4 22 = .ok (.iadd, 1) := by decide +kernel
theorem dJ6_bitCount_0f7a4_23 : decode cJ6_bitCount_0f7a4 23 = .ok (.istore_n 0, 1) := by decide +kernel
theorem dJ6_bitCount_0f7a4_24 : decode cJ6_bitCount_0f7a4 24 = .ok (.iload_n 0, 1) := by decide +kernel
theorem dJ6_bitCount_0f7a4_25 : decode cJ6_bitCount_0f7a4 25 = .ok (.iload_n 0, 1) := by decide +kernel
theorem dJ6_bitCount_0f7a4_26 : decode cJ6_bitCount_0f7a4 26 = .ok (.iconst 4, 1) := by decide +kernel
theorem dJ6_bitCount_0f7a4_27 : decode cJ6_bitCount_0f7a4 27 = .ok (.iushr, 1) := by decide +kernel
theorem dJ6_bitCount_0f7a4_28 : decode cJ6_bitCount_0f7a4 28 = .ok (.iadd, 1) := by decide +kernel
theorem dJ6_bitCount_0f7a4_29 : decode cJ6_bitCount_0f7a4 29 = .ok (.ldc_w 267, 3) := by decide +kernel
theorem dJ6_bitCount_0f7a4_32 : decode cJ6_bitCount_0f7a4 32 = .ok (.iand, 1) := by decide +kernel
theorem dJ6_bitCount_0f7a4_33 : decode cJ6_bitCount_0f7a4 33 = .ok (.istore_n 0, 1) := by decide +kernel
theorem dJ6_bitCount_0f7a4_34 : decode cJ6_bitCount_0f7a4 34 = .ok (.iload_n 0, 1) := by decide +kernel
theorem dJ6_bitCount_0f7a4_35 : decode cJ6_bitCount_0f7a4 35 = .ok (.iload_n 0, 1) := by decide +kernel
theorem dJ6_bitCount_0f7a4_36 : decode cJ6_bitCount_0f7a4 36 = .ok (.bipush 8, 2) := by decide +kernel
theorem dJ6_bitCount_0f7a4_38 : decode cJ6_bitCount_0f7a4 38 = .ok (.iushr, 1) := by decide +kernel
theorem dJ6_bitCount_0f7a4_39 : decode cJ6_bitCount_0f7a4 39 = .ok (.iadd, 1) := by decide +kernel
theorem dJ6_bitCount_0f7a4_40 : decode cJ6_bitCount_0f7a4 40 = .ok (.istore_n 0, 1) := by decide +kernel
theorem dJ6_bitCount_0f7a4_41 : decode cJ6_bitCount_0f7a4 41 = .ok (.iload_n 0, 1) := by decide +kernel
theorem dJ6_bitCount_0f7a4_42 : decode cJ6_bitCount_0f7a4 42 = .ok (.iload_n 0, 1) := by decide +kernel
theorem dJ6_bitCount_0f7a4_43 : decode cJ6_bitCount_0f7a4 43 = .ok (.bipush 16, 2) := by decide +kernel
theorem dJ6_bitCount_0f7a4_45 : decode cJ6_bitCount_0f7a4 45 = .ok (.iushr, 1) := by decide +kernel
theorem dJ6_bitCount_0f7a4_46 : decode cJ6_bitCount_0f7a4 46 = .ok (.iadd, 1) := by decide +kernel
theorem dJ6_bitCount_0f7a4_47 : decode cJ6_bitCount_0f7a4 47 = .ok (.istore_n 0, 1) := by decide +kernel
theorem dJ6_bitCount_0f7a4_48 : decode cJ6_bitCount_0f7a4 48 = .ok (.iload_n 0, 1) := by decide +kernel
theorem dJ6_bitCount_0f7a4_49 : decode cJ6_bitCount_0f7a4 49 = .ok (.bipush 63, 2) := by decide +kernel
theorem dJ6_bitCount_0f7a4_51 : decode cJ6_bitCount_0f7a4 51 = .ok (.iand, 1) := by decide +kernel
theorem dJ6_bitCount_0f7a4_52 : decode cJ6_bitCount_0f7a4 52 = .ok (.ireturn, 1) := by decide +kernel
theorem dJ6_signum_0f7a4_0 : decode cJ6_signum_0f7a4 0 = .ok (.iload_n 0, 1) := by decide +kernel
theorem dJ6_signum_0f7a4_1 : decode cJ6_signum_0f7a4 1 = .ok (.bipush 31, 2) := by decide +kernel
theorem dJ6_signum_0f7a4_3 : decode cJ6_signum_0f7a4 3 = .ok (.ishr, 1) := by decide +kernel
theorem dJ6_signum_0f7a4_4 : decode cJ6_signum_0f7a4 4 = .ok (.iload_n 0, 1) := by decide +kernel
theorem dJ6_signum_0f7a4_5 : decode cJ6_signum_0f7a4 5 = .ok (.ineg, 1) := by decide +kernel
theorem dJ6_signum_0f7a4_6 : decode cJ6_signum_0f7a4 6 = .ok (.bipush 31, 2) := by decide +kernel
theorem dJ6_signum_0f7a4_8 : decode cJ6_signum_0f7a4 8 = .ok (.iushr, 1) := by decide +kernel
theorem dJ6_signum_0f7a4_9 : decode cJ6_signum_0f7a4 9 = .ok (.ior, 1) := by decide +kernel
theorem dJ6_signum_0f7a4_10 : decode cJ6_signum_0f7a4 10 = .ok (.ireturn, 1) := by decide +kernel
theorem dJ9_abs_0f7a4_0 : decode cJ9_abs_0f7a4 0 = .ok (.iload_n 0, 1) := by decide +kernel
theorem dJ9_abs_0f7a4_1 : decode cJ9_abs_0f7a4 1 = .ok (.ifCond .ge 8, 3) := by decide +kernel
theorem dJ9_abs_0f7a4_4 : decode cJ9_abs_0f7a4 4 = .ok (.iload_n 0, 1) := by decide +kernel
theorem dJ9_abs_0f7a4_5 : decode cJ9_abs_0f7a4 5 = .ok (.ineg, 1) := by decide +kernel
theorem dJ9_abs_0f7a4_6 : decode cJ9_abs_0f7a4 6 = .ok (.goto 4, 3) := by decide +kernel
theorem dJ9_abs_0f7a4_9 : decode cJ9_abs_0f7a4 9 = .ok (.iload_n 0, 1) := by decide +kernel
theorem dJ9_abs_0f7a4_10 : decode cJ9_abs_0f7a4 10 = .ok (.ireturn, 1) := by decide +kernel
theorem dJ9_max_7cf53_0 : decode cJ9_max_7cf53 0 = .ok (.iload_n 0, 1) := by decide +kernel
theorem dJ9_max_7cf53_1 : decode cJ9_max_7cf53 1 = .ok (.iload_n 1, 1) := by decide +kernel
theorem dJ9_max_7cf53_2 : decode cJ9_max_7cf53 2 = .ok (.if_icmp .lt 7, 3) := by decide +kernel
theorem dJ9_max_7cf53_5 : decode cJ9_max_7cf53 5 = .ok (.iload_n 0, 1) := by decide +kernel
theorem dJ9_max_7cf53_6 : decode cJ9_max_7cf53 6 = .ok (.goto 4, 3) := by decide +kernel
theorem dJ9_max_7cf53_9 : decode cJ9_max_7cf53 9 = .ok (.iload_n 1, 1) := by decide +kernel
theorem dJ9_max_7cf53_10 : decode cJ9_max_7cf53 10 = .ok (.ireturn, 1) := by decide +kernel
theorem dJ7_fill_53178_0 : decode cJ7_fill_53178 0 = .ok (.iconst 0, 1) := by decide +kernel
theorem dJ7_fill_53178_1 : decode cJ7_fill_53178 1 = .ok (.istore_n 2, 1) := by decide +kernel
theorem dJ7_fill_53178_2 : decode cJ7_fill_53178 2 = .ok (.aload_n 0, 1) := by decide +kernel
theorem dJ7_fill_53178_3 : decode cJ7_fill_53178 3 = .ok (.arraylength, 1) := by decide +kernel
theorem dJ7_fill_53178_4 : decode cJ7_fill_53178 4 = .ok (.istore_n 3, 1) := by decide +kernel
theorem dJ7_fill_53178_5 : decode cJ7_fill_53178 5 = .ok (.iload_n 2, 1) := by decide +kernel
theorem dJ7_fill_53178_6 : decode cJ7_fill_53178 6 = .ok (.iload_n 3, 1) := by decide +kernel
theorem dJ7_fill_53178_7 : decode cJ7_fill_53178 7 = .ok (.if_icmp .ge 13, 3) := by decide +kernel
theorem dJ7_fill_53178_10 : decode cJ7_fill_53178 10 = .ok (.aload_n 0, 1) := by decide +kernel
theorem dJ7_fill_53178_11 : decode cJ7_fill_53178 11 = .ok (.iload_n 2, 1) := by decide +kernel
theorem dJ7_fill_53178_12 : decode cJ7_fill_53178 12 = .ok (.iload_n 1, 1) := by decide +kernel
theorem dJ7_fill_53178_13 : decode cJ7_fill_53178 13 = .ok (.iastore, 1) := by decide +kernel
theorem dJ7_fill_53178_14 : decode cJ7_fill_53178 14 = .ok (.iinc 2 1, 3) := by decide +kernel
theorem dJ7_fill_53178_17 : decode cJ7_fill_53178 17 = .ok (.goto (-12), 3) := by decide +kernel
theorem dJ7_fill_53178_20 : decode cJ7_fill_53178 20 = .ok (.return_, 1) := by decide +kernel
set_option maxRecDepth 20000 in
theorem ggL_set_X1_set : GoodIn wsL_set wsX1_set := goodIn_ca (goodIn_ca (goodIn_r _ [7, 8, 9, 6, 10, 11, 12, 13, 14, 15, 16, 17, 18, 19, 20, 21, 22, 23, 24, 25, 26, 27, 28, 29, 30, 31, 32, 33, 34, 35, 36, 37, 38, 39, 40, 41, 42, 43, 44, 45, 46, 47, 48, 49, 50, 51, 52, 53, 54, 55, 56, 57, 58, 59, 60, 61, 62, 63, 64, 65, 66, 67, 68, 69, 70, 71, 72, 73, 74, 75, 76, 77, 78, 79, 80, 81, 82, 83, 84, 85, 86, 87, 88, 89, 90, 91, 92, 93, 94, 95, 96, 97, 98, 99, 100, 101, 102, 103, 104, 105, 106, 107, 108, 109, 110, 111, 112, 113, 114, 115, 116, 117, 118, 119, 120, 121, 122, 123, 124, 125, 126, 127, 128, 129, 130, 131, 132, 133, 134] (by decide +kernel) (by decide +kernel)) (goodIn_sub (fun _ h => List.mem_cons_of_mem _ (List.mem_append_left _ (List.mem_append_right _ h))) (by decide +kernel))) (goodIn_sub (fun _ h => List.mem_cons_of_mem _ (List.mem_append_right _ h)) (by decide +kernel))
set_option maxRecDepth 20000 in
theorem gL_set_X1_set : GoodIn wsL_set (wsV RL 7 RX1 yX1_set wsX1_set) := goodIn_app (goodIn_of _ (by decide +kernel)) ggL_set_X1_set
theorem dL_set_0 : decode cL_set 0 = .ok (.aload 4, 2) := by decide +kernel
