theorem dX1_digest_154 : decode cX1_digest 154 = .ok (.lstore_n 1, 1) := by decide +kernel
theorem dX1_digest_155 : decode cX1_digest 155 = .ok (.iinc 4 1, 3) := by decide +kernel
theorem dX1_digest_158 : decode cX1_digest 158 = .ok (.goto (-24), 3) := by decide +kernel
theorem dX1_digest_161 : decode cX1_digest 161 = .ok (.iinc 3 1, 3) := by decide +kernel
theorem dX1_digest_164 : decode cX1_digest 164 = .ok (.goto (-41), 3) := by decide +kernel
theorem dX1_digest_167 : decode cX1_digest 167 = .ok (.lload_n 1, 1) := by decide +kernel
theorem dX1_digest_168 : decode cX1_digest 168 = .ok (.lreturn, 1) := by decide +kernel
theorem dX1_requirePlace_0 : decode cX1_requirePlace 0 = .ok (.iload_n 0, 1) := by decide +kernel
theorem dX1_requirePlace_1 : decode cX1_requirePlace 1 = .ok (.ifCond .lt 19, 3) := by decide +kernel
theorem dX1_requirePlace_4 : decode cX1_requirePlace 4 = .ok (.iload_n 0, 1) := by decide +kernel
theorem dX1_requirePlace_5 : decode cX1_requirePlace 5 = .ok (.bipush 12, 2) := by decide +kernel
theorem dX1_requirePlace_7 : decode cX1_requirePlace 7 = .ok (.if_icmp .ge 13, 3) := by decide +kernel
theorem dX1_requirePlace_10 : decode cX1_requirePlace 10 = .ok (.iload_n 1, 1) := by decide +kernel
theorem dX1_requirePlace_11 : decode cX1_requirePlace 11 = .ok (.ifCond .lt 9, 3) := by decide +kernel
theorem dX1_requirePlace_14 : decode cX1_requirePlace 14 = .ok (.iload_n 1, 1) := by decide +kernel
theorem dX1_requirePlace_15 : decode cX1_requirePlace 15 = .ok (.bipush 12, 2) := by decide +kernel
theorem dX1_requirePlace_17 : decode cX1_requirePlace 17 = .ok (.if_icmp .lt 13, 3) := by decide +kernel
theorem dX1_requirePlace_20 : decode cX1_requirePlace 20 = .ok (.new 221, 3) := by decide +kernel
theorem dX1_requirePlace_23 : decode cX1_requirePlace 23 = .ok (.dup, 1) := by decide +kernel
theorem dX1_requirePlace_24 : decode cX1_requirePlace 24 = .ok (.ldc 223, 2) := by decide +kernel
theorem dX1_requirePlace_26 : decode cX1_requirePlace 26 = .ok (.invokespecial 225, 3) := by decide +kernel
theorem dX1_requirePlace_29 : decode cX1_requirePlace 29 = .ok (.athrow, 1) := by decide +kernel
theorem dX1_requirePlace_30 : decode cX1_requirePlace 30 = .ok (.return_, 1) := by decide +kernel
theorem dX1_requireCell_0 : decode cX1_requireCell 0 = .ok (.iload_n 0, 1) := by decide +kernel
theorem dX1_requireCell_1 : decode cX1_requireCell 1 = .ok (.ifCond .lt 10, 3) := by decide +kernel
theorem dX1_requireCell_4 : decode cX1_requireCell 4 = .ok (.iload_n 0, 1) := by decide +kernel
theorem dX1_requireCell_5 : decode cX1_requireCell 5 = .ok (.sipush 144, 3) := by decide +kernel
theorem dX1_requireCell_8 : decode cX1_requireCell 8 = .ok (.if_icmp .lt 13, 3) := by decide +kernel
theorem dX1_requireCell_11 : decode cX1_requireCell 11 = .ok (.new 221, 3) := by decide +kernel
theorem dX1_requireCell_14 : decode cX1_requireCell 14 = .ok (.dup, 1) := by decide +kernel
theorem dX1_requireCell_15 : decode cX1_requireCell 15 = .ok (.ldc 226, 2) := by decide +kernel
theorem dX1_requireCell_17 : decode cX1_requireCell 17 = .ok (.invokespecial 225, 3) := by decide +kernel
theorem dX1_requireCell_20 : decode cX1_requireCell 20 = .ok (.athrow, 1) := by decide +kernel
theorem dX1_requireCell_21 : decode cX1_requireCell 21 = .ok (.return_, 1) := by decide +kernel
theorem dX1_requireKind_0 : decode cX1_requireKind 0 = .ok (.iload_n 0, 1) := by decide +kernel
theorem dX1_requireKind_1 : decode cX1_requireKind 1 = .ok (.ifCond .lt 8, 3) := by decide +kernel
theorem dX1_requireKind_4 : decode cX1_requireKind 4 = .ok (.iload_n 0, 1) := by decide +kernel
theorem dX1_requireKind_5 : decode cX1_requireKind 5 = .ok (.iconst 3, 1) := by decide +kernel
theorem dX1_requireKind_6 : decode cX1_requireKind 6 = .ok (.if_icmp .le 13, 3) := by decide +kernel
theorem dX1_requireKind_9 : decode cX1_requireKind 9 = .ok (.new 228, 3) := by decide +kernel
theorem dX1_requireKind_12 : decode cX1_requireKind 12 = .ok (.dup, 1) := by decide +kernel
theorem dX1_requireKind_13 : decode cX1_requireKind 13 = .ok (.ldc 230, 2) := by decide +kernel
theorem dX1_requireKind_15 : decode cX1_requireKind 15 = .ok (.invokespecial 232, 3) := by decide +kernel
theorem dX1_requireKind_18 : decode cX1_requireKind 18 = .ok (.athrow, 1) := by decide +kernel
theorem dX1_requireKind_19 : decode cX1_requireKind 19 = .ok (.return_, 1) := by decide +kernel
theorem dX1_requireReach_0 : decode cX1_requireReach 0 = .ok (.iload_n 0, 1) := by decide +kernel
theorem dX1_requireReach_1 : decode cX1_requireReach 1 = .ok (.iconst 1, 1) := by decide +kernel
theorem dX1_requireReach_2 : decode cX1_requireReach 2 = .ok (.if_icmp .lt 9, 3) := by decide +kernel
theorem dX1_requireReach_5 : decode cX1_requireReach 5 = .ok (.iload_n 0, 1) := by decide +kernel
theorem dX1_requireReach_6 : decode cX1_requireReach 6 = .ok (.bipush 12, 2) := by decide +kernel
theorem dX1_requireReach_8 : decode cX1_requireReach 8 = .ok (.if_icmp .le 13, 3) := by decide +kernel
theorem dX1_requireReach_11 : decode cX1_requireReach 11 = .ok (.new 228, 3) := by decide +kernel
theorem dX1_requireReach_14 : decode cX1_requireReach 14 = .ok (.dup, 1) := by decide +kernel
theorem dX1_requireReach_15 : decode cX1_requireReach 15 = .ok (.ldc 233, 2) := by decide +kernel
theorem dX1_requireReach_17 : decode cX1_requireReach 17 = .ok (.invokespecial 232, 3) := by decide +kernel
theorem dX1_requireReach_20 : decode cX1_requireReach 20 = .ok (.athrow, 1) := by decide +kernel
theorem dX1_requireReach_21 : decode cX1_requireReach 21 = .ok (.return_, 1) := by decide +kernel
theorem dX1_requireWhat_0 : decode cX1_requireWhat 0 = .ok (.iload_n 0, 1) := by decide +kernel
theorem dX1_requireWhat_1 : decode cX1_requireWhat 1 = .ok (.ifCond .lt 8, 3) := by decide +kernel
theorem dX1_requireWhat_4 : decode cX1_requireWhat 4 = .ok (.iload_n 0, 1) := by decide +kernel
theorem dX1_requireWhat_5 : decode cX1_requireWhat 5 = .ok (.iload_n 1, 1) := by decide +kernel
theorem dX1_requireWhat_6 : decode cX1_requireWhat 6 = .ok (.if_icmp .le 13, 3) := by decide +kernel
theorem dX1_requireWhat_9 : decode cX1_requireWhat 9 = .ok (.new 221, 3) := by decide +kernel
theorem dX1_requireWhat_12 : decode cX1_requireWhat 12 = .ok (.dup, 1) := by decide +kernel
theorem dX1_requireWhat_13 : decode cX1_requireWhat 13 = .ok (.ldc 235, 2) := by decide +kernel
theorem dX1_requireWhat_15 : decode cX1_requireWhat 15 = .ok (.invokespecial 225, 3) := by decide +kernel
theorem dX1_requireWhat_18 : decode cX1_requireWhat 18 = .ok (.athrow, 1) := by decide +kernel
theorem dX1_requireWhat_19 : decode cX1_requireWhat 19 = .ok (.return_, 1) := by decide +kernel
theorem dX1_requireLamp_0 : decode cX1_requireLamp 0 = .ok (.iload_n 1, 1) := by decide +kernel
theorem dX1_requireLamp_1 : decode cX1_requireLamp 1 = .ok (.ifCond .lt 11, 3) := by decide +kernel
theorem dX1_requireLamp_4 : decode cX1_requireLamp 4 = .ok (.iload_n 1, 1) := by decide +kernel
theorem dX1_requireLamp_5 : decode cX1_requireLamp 5 = .ok (.aload_n 0, 1) := by decide +kernel
theorem dX1_requireLamp_6 : decode cX1_requireLamp 6 = .ok (.getfield 63, 3) := by decide +kernel
theorem dX1_requireLamp_9 : decode cX1_requireLamp 9 = .ok (.if_icmp .lt 13, 3) := by decide +kernel
theorem dX1_requireLamp_12 : decode cX1_requireLamp 12 = .ok (.new 221, 3) := by decide +kernel
theorem dX1_requireLamp_15 : decode cX1_requireLamp 15 = .ok (.dup, 1) := by decide +kernel
theorem dX1_requireLamp_16 : decode cX1_requireLamp 16 = .ok (.ldc 237, 2) := by decide +kernel
theorem dX1_requireLamp_18 : decode cX1_requireLamp 18 = .ok (.invokespecial 225, 3) := by decide +kernel
theorem dX1_requireLamp_21 : decode cX1_requireLamp 21 = .ok (.athrow, 1) := by decide +kernel
theorem dX1_requireLamp_22 : decode cX1_requireLamp 22 = .ok (.return_, 1) := by decide +kernel
theorem dX1_requireWatcher_0 : decode cX1_requireWatcher 0 = .ok (.iload_n 1, 1) := by decide +kernel
theorem dX1_requireWatcher_1 : decode cX1_requireWatcher 1 = .ok (.ifCond .lt 11, 3) := by decide +kernel
theorem dX1_requireWatcher_4 : decode cX1_requireWatcher 4 = .ok (.iload_n 1, 1) := by decide +kernel
theorem dX1_requireWatcher_5 : decode cX1_requireWatcher 5 = .ok (.aload_n 0, 1) := by decide +kernel
theorem dX1_requireWatcher_6 : decode cX1_requireWatcher 6 = .ok (.getfield 99, 3) := by decide +kernel
theorem dX1_requireWatcher_9 : decode cX1_requireWatcher 9 = .ok (.if_icmp .lt 13, 3) := by decide +kernel
theorem dX1_requireWatcher_12 : decode cX1_requireWatcher 12 = .ok (.new 221, 3) := by decide +kernel
theorem dX1_requireWatcher_15 : decode cX1_requireWatcher 15 = .ok (.dup, 1) := by decide +kernel
theorem dX1_requireWatcher_16 : decode cX1_requireWatcher 16 = .ok (.ldc 239, 2) := by decide +kernel
theorem dX1_requireWatcher_18 : decode cX1_requireWatcher 18 = .ok (.invokespecial 225, 3) := by decide +kernel
theorem dX1_requireWatcher_21 : decode cX1_requireWatcher 21 = .ok (.athrow, 1) := by decide +kernel
theorem dX1_requireWatcher_22 : decode cX1_requireWatcher 22 = .ok (.return_, 1) := by decide +kernel
theorem dX1_cellAt_0 : decode cX1_cellAt 0 = .ok (.bipush 12, 2) := by decide +kernel
theorem dX1_cellAt_2 : decode cX1_cellAt 2 = .ok (.iload_n 1, 1) := by decide +kernel
theorem dX1_cellAt_3 : decode cX1_cellAt 3 = .ok (.imul, 1) := by decide +kernel
theorem dX1_cellAt_4 : decode cX1_cellAt 4 = .ok (.iload_n 0, 1) := by decide +kernel
theorem dX1_cellAt_5 : decode cX1_cellAt 5 = .ok (.iadd, 1) := by decide +kernel
theorem dX1_cellAt_6 : decode cX1_cellAt 6 = .ok (.ireturn, 1) := by decide +kernel
theorem dX1_columnOf_0 : decode cX1_columnOf 0 = .ok (.iload_n 0, 1) := by decide +kernel
theorem dX1_columnOf_1 : decode cX1_columnOf 1 = .ok (.bipush 12, 2) := by decide +kernel
theorem dX1_columnOf_3 : decode cX1_columnOf 3 = .ok (.irem, 1) := by decide +kernel
theorem dX1_columnOf_4 : decode cX1_columnOf 4 = .ok (.ireturn, 1) := by decide +kernel
theorem dX1_rowOf_0 : decode cX1_rowOf 0 = .ok (.iload_n 0, 1) := by decide +kernel
theorem dX1_rowOf_1 : decode cX1_rowOf 1 = .ok (.bipush 12, 2) := by decide +kernel
theorem dX1_rowOf_3 : decode cX1_rowOf 3 = .ok (.idiv, 1) := by decide +kernel
theorem dX1_rowOf_4 : decode cX1_rowOf 4 = .ok (.ireturn, 1) := by decide +kernel
set_option maxRecDepth 20000 in
theorem ggX1_neighbour_X1_rowOf : GoodIn wsX1_neighbour wsX1_rowOf := goodIn_r _ [4] (by decide +kernel) (by decide +kernel)
set_option maxRecDepth 20000 in
theorem gX1_neighbour_X1_rowOf : GoodIn wsX1_neighbour (va_wsS RX1 241 yX1_rowOf wsX1_rowOf) := goodIn_app (goodIn_of _ (by decide +kernel)) ggX1_neighbour_X1_rowOf
set_option maxRecDepth 20000 in
theorem ggX1_neighbour_X1_columnOf : GoodIn wsX1_neighbour wsX1_columnOf := goodIn_r _ [7] (by decide +kernel) (by decide +kernel)
set_option maxRecDepth 20000 in
theorem gX1_neighbour_X1_columnOf : GoodIn wsX1_neighbour (va_wsS RX1 244 yX1_columnOf wsX1_columnOf) := goodIn_app (goodIn_of _ (by decide +kernel)) ggX1_neighbour_X1_columnOf
theorem dX1_neighbour_0 : decode cX1_neighbour 0 = .ok (.iload_n 1, 1) := by decide +kernel
theorem dX1_neighbour_1 : decode cX1_neighbour 1 = .ok (.tableswitch 97 0 3 #[31, 47, 62, 79], 31) := by decide +kernel
theorem dX1_neighbour_32 : decode cX1_neighbour 32 = .ok (.iload_n 0, 1) := by decide +kernel
theorem dX1_neighbour_33 : decode cX1_neighbour 33 = .ok (.invokestatic 241, 3) := by decide +kernel
theorem dX1_neighbour_36 : decode cX1_neighbour 36 = .ok (.ifCond .le 10, 3) := by decide +kernel
theorem dX1_neighbour_39 : decode cX1_neighbour 39 = .ok (.iload_n 0, 1) := by decide +kernel
theorem dX1_neighbour_40 : decode cX1_neighbour 40 = .ok (.bipush 12, 2) := by decide +kernel
theorem dX1_neighbour_42 : decode cX1_neighbour 42 = .ok (.isub, 1) := by decide +kernel
theorem dX1_neighbour_43 : decode cX1_neighbour 43 = .ok (.goto 4, 3) := by decide +kernel
theorem dX1_neighbour_46 : decode cX1_neighbour 46 = .ok (.iconst (-1), 1) := by decide +kernel
theorem dX1_neighbour_47 : decode cX1_neighbour 47 = .ok (.ireturn, 1) := by decide +kernel
theorem dX1_neighbour_48 : decode cX1_neighbour 48 = .ok (.iload_n 0, 1) := by decide +kernel
theorem dX1_neighbour_49 : decode cX1_neighbour 49 = .ok (.invokestatic 244, 3) := by decide +kernel
theorem dX1_neighbour_52 : decode cX1_neighbour 52 = .ok (.ifCond .le 9, 3) := by decide +kernel
theorem dX1_neighbour_55 : decode cX1_neighbour 55 = .ok (.iload_n 0, 1) := by decide +kernel
theorem dX1_neighbour_56 : decode cX1_neighbour 56 = .ok (.iconst 1, 1) := by decide +kernel
theorem dX1_neighbour_57 : decode cX1_neighbour 57 = .ok (.isub, 1) := by decide +kernel
theorem dX1_neighbour_58 : decode cX1_neighbour 58 = .ok (.goto 4, 3) := by decide +kernel
theorem dX1_neighbour_61 : decode cX1_neighbour 61 = .ok (.iconst (-1), 1) := by decide +kernel
theorem dX1_neighbour_62 : decode cX1_neighbour 62 = .ok (.ireturn, 1) := by decide +kernel
theorem dX1_neighbour_63 : decode cX1_neighbour 63 = .ok (.iload_n 0, 1) := by decide +kernel
theorem dX1_neighbour_64 : decode cX1_neighbour 64 = .ok (.invokestatic 244, 3) := by decide +kernel
theorem dX1_neighbour_67 : decode cX1_neighbour 67 = .ok (.bipush 11, 2) := by decide +kernel
theorem dX1_neighbour_69 : decode cX1_neighbour 69 = .ok (.if_icmp .ge 9, 3) := by decide +kernel
theorem dX1_neighbour_72 : decode cX1_neighbour 72 = .ok (.iload_n 0, 1) := by decide +kernel
theorem dX1_neighbour_73 : decode cX1_neighbour 73 = .ok (.iconst 1, 1) := by decide +kernel
theorem dX1_neighbour_74 : decode cX1_neighbour 74 = .ok (.iadd, 1) := by decide +kernel
theorem dX1_neighbour_75 : decode cX1_neighbour 75 = .ok (.goto 4, 3) := by decide +kernel
theorem dX1_neighbour_78 : decode cX1_neighbour 78 = .ok (.iconst (-1), 1) := by decide +kernel
theorem dX1_neighbour_79 : decode cX1_neighbour 79 = .ok (.ireturn, 1) := by decide +kernel
theorem dX1_neighbour_80 : decode cX1_neighbour 80 = .ok (.iload_n 0, 1) := by decide +kernel
theorem dX1_neighbour_81 : decode cX1_neighbour 81 = .ok (.invokestatic 241, 3) := by decide +kernel
theorem dX1_neighbour_84 : decode cX1_neighbour 84 = .ok (.bipush 11, 2) := by decide +kernel
theorem dX1_neighbour_86 : decode cX1_neighbour 86 = .ok (.if_icmp .ge 10, 3) := by decide +kernel
theorem dX1_neighbour_89 : decode cX1_neighbour 89 = .ok (.iload_n 0, 1) := by decide +kernel
theorem dX1_neighbour_90 : decode cX1_neighbour 90 = .ok (.bipush 12, 2) := by decide +kernel
theorem dX1_neighbour_92 : decode cX1_neighbour 92 = .ok (.iadd, 1) := by decide +kernel
theorem dX1_neighbour_93 : decode cX1_neighbour 93 = .ok (.goto 4, 3) := by decide +kernel
theorem dX1_neighbour_96 : decode cX1_neighbour 96 = .ok (.iconst (-1), 1) := by decide +kernel
theorem dX1_neighbour_97 : decode cX1_neighbour 97 = .ok (.ireturn, 1) := by decide +kernel
theorem dX1_neighbour_98 : decode cX1_neighbour 98 = .ok (.iconst (-1), 1) := by decide +kernel
theorem dX1_neighbour_99 : decode cX1_neighbour 99 = .ok (.ireturn, 1) := by decide +kernel
theorem dX1_kindOf_0 : decode cX1_kindOf 0 = .ok (.iload_n 1, 1) := by decide +kernel
theorem dX1_kindOf_1 : decode cX1_kindOf 1 = .ok (.ifCond .lt 21, 3) := by decide +kernel
theorem dX1_kindOf_4 : decode cX1_kindOf 4 = .ok (.iload_n 1, 1) := by decide +kernel
theorem dX1_kindOf_5 : decode cX1_kindOf 5 = .ok (.aload_n 0, 1) := by decide +kernel
theorem dX1_kindOf_6 : decode cX1_kindOf 6 = .ok (.getfield 9, 3) := by decide +kernel
theorem dX1_kindOf_9 : decode cX1_kindOf 9 = .ok (.arraylength, 1) := by decide +kernel
theorem dX1_kindOf_10 : decode cX1_kindOf 10 = .ok (.if_icmp .ge 12, 3) := by decide +kernel
theorem dX1_kindOf_13 : decode cX1_kindOf 13 = .ok (.aload_n 0, 1) := by decide +kernel
theorem dX1_kindOf_14 : decode cX1_kindOf 14 = .ok (.getfield 9, 3) := by decide +kernel
theorem dX1_kindOf_17 : decode cX1_kindOf 17 = .ok (.iload_n 1, 1) := by decide +kernel
theorem dX1_kindOf_18 : decode cX1_kindOf 18 = .ok (.iaload, 1) := by decide +kernel
theorem dX1_kindOf_19 : decode cX1_kindOf 19 = .ok (.goto 4, 3) := by decide +kernel
theorem dX1_kindOf_22 : decode cX1_kindOf 22 = .ok (.iconst 0, 1) := by decide +kernel
theorem dX1_kindOf_23 : decode cX1_kindOf 23 = .ok (.ireturn, 1) := by decide +kernel
theorem dX1_putKind_0 : decode cX1_putKind 0 = .ok (.iload_n 1, 1) := by decide +kernel
theorem dX1_putKind_1 : decode cX1_putKind 1 = .ok (.ifCond .lt 19, 3) := by decide +kernel
theorem dX1_putKind_4 : decode cX1_putKind 4 = .ok (.iload_n 1, 1) := by decide +kernel
theorem dX1_putKind_5 : decode cX1_putKind 5 = .ok (.aload_n 0, 1) := by decide +kernel
theorem dX1_putKind_6 : decode cX1_putKind 6 = .ok (.getfield 9, 3) := by decide +kernel
theorem dX1_putKind_9 : decode cX1_putKind 9 = .ok (.arraylength, 1) := by decide +kernel
theorem dX1_putKind_10 : decode cX1_putKind 10 = .ok (.if_icmp .ge 10, 3) := by decide +kernel
theorem dX1_putKind_13 : decode cX1_putKind 13 = .ok (.aload_n 0, 1) := by decide +kernel
theorem dX1_putKind_14 : decode cX1_putKind 14 = .ok (.getfield 9, 3) := by decide +kernel
theorem dX1_putKind_17 : decode cX1_putKind 17 = .ok (.iload_n 1, 1) := by decide +kernel
theorem dX1_putKind_18 : decode cX1_putKind 18 = .ok (.iload_n 2, 1) := by decide +kernel
theorem dX1_putKind_19 : decode cX1_putKind 19 = .ok (.iastore, 1) := by decide +kernel
theorem dX1_putKind_20 : decode cX1_putKind 20 = .ok (.return_, 1) := by decide +kernel
set_option maxRecDepth 20000 in
theorem ggX1_cellsNotOpen_X1_kindOf : GoodIn wsX1_cellsNotOpen wsX1_kindOf := goodIn_r _ [5, 6, 7, 8, 9, 10, 11, 12, 13, 14, 15, 16, 17] (by decide +kernel) (by decide +kernel)
set_option maxRecDepth 20000 in
theorem gX1_cellsNotOpen_X1_kindOf : GoodIn wsX1_cellsNotOpen (wsV RX1 50 RX1 yX1_kindOf wsX1_kindOf) := goodIn_app (goodIn_of _ (by decide +kernel)) ggX1_cellsNotOpen_X1_kindOf
theorem dX1_cellsNotOpen_0 : decode cX1_cellsNotOpen 0 = .ok (.iconst 0, 1) := by decide +kernel
theorem dX1_cellsNotOpen_1 : decode cX1_cellsNotOpen 1 = .ok (.istore_n 1, 1) := by decide +kernel
theorem dX1_cellsNotOpen_2 : decode cX1_cellsNotOpen 2 = .ok (.iconst 0, 1) := by decide +kernel
theorem dX1_cellsNotOpen_3 : decode cX1_cellsNotOpen 3 = .ok (.istore_n 2, 1) := by decide +kernel
theorem dX1_cellsNotOpen_4 : decode cX1_cellsNotOpen 4 = .ok (.iload_n 2, 1) := by decide +kernel
theorem dX1_cellsNotOpen_5 : decode cX1_cellsNotOpen 5 = .ok (.sipush 144, 3) := by decide +kernel
theorem dX1_cellsNotOpen_8 : decode cX1_cellsNotOpen 8 = .ok (.if_icmp .ge 20, 3) := by decide +kernel
theorem dX1_cellsNotOpen_11 : decode cX1_cellsNotOpen 11 = .ok (.aload_n 0, 1) := by decide +kernel
theorem dX1_cellsNotOpen_12 : decode cX1_cellsNotOpen 12 = .ok (.iload_n 2, 1) := by decide +kernel
theorem dX1_cellsNotOpen_13 : decode cX1_cellsNotOpen 13 = .ok (.invokevirtual 50, 3) := by decide +kernel
theorem dX1_cellsNotOpen_16 : decode cX1_cellsNotOpen 16 = .ok (.ifCond .eq 6, 3) := by decide +kernel
theorem dX1_cellsNotOpen_19 : decode cX1_cellsNotOpen 19 = .ok (.iinc 1 1, 3) := by decide +kernel
theorem dX1_cellsNotOpen_22 : decode cX1_cellsNotOpen 22 = .ok (.iinc 2 1, 3) := by decide +kernel
theorem dX1_cellsNotOpen_25 : decode cX1_cellsNotOpen 25 = .ok (.goto (-21), 3) := by decide +kernel
theorem dX1_cellsNotOpen_28 : decode cX1_cellsNotOpen 28 = .ok (.iload_n 1, 1) := by decide +kernel
theorem dX1_cellsNotOpen_29 : decode cX1_cellsNotOpen 29 = .ok (.ireturn, 1) := by decide +kernel
set_option maxRecDepth 20000 in
theorem ggX1_stoppedBy_X1_kindOf : GoodIn wsX1_stoppedBy wsX1_kindOf := goodIn_r _ [5, 6, 7, 8, 9, 10, 11, 12, 13, 14, 15, 16, 17] (by decide +kernel) (by decide +kernel)
set_option maxRecDepth 20000 in
theorem gX1_stoppedBy_X1_kindOf : GoodIn wsX1_stoppedBy (wsV RX1 50 RX1 yX1_kindOf wsX1_kindOf) := goodIn_app (goodIn_of _ (by decide +kernel)) ggX1_stoppedBy_X1_kindOf
theorem dX1_stoppedBy_0 : decode cX1_stoppedBy 0 = .ok (.aload_n 0, 1) := by decide +kernel
theorem dX1_stoppedBy_1 : decode cX1_stoppedBy 1 = .ok (.iload_n 1, 1) := by decide +kernel
theorem dX1_stoppedBy_2 : decode cX1_stoppedBy 2 = .ok (.invokevirtual 50, 3) := by decide +kernel
theorem dX1_stoppedBy_5 : decode cX1_stoppedBy 5 = .ok (.lookupswitch 31 #[(1, 27), (2, 29)], 27) := by decide +kernel
theorem dX1_stoppedBy_32 : decode cX1_stoppedBy 32 = .ok (.iconst 3, 1) := by decide +kernel
theorem dX1_stoppedBy_33 : decode cX1_stoppedBy 33 = .ok (.ireturn, 1) := by decide +kernel
theorem dX1_stoppedBy_34 : decode cX1_stoppedBy 34 = .ok (.iconst 1, 1) := by decide +kernel
theorem dX1_stoppedBy_35 : decode cX1_stoppedBy 35 = .ok (.ireturn, 1) := by decide +kernel
theorem dX1_stoppedBy_36 : decode cX1_stoppedBy 36 = .ok (.iconst 0, 1) := by decide +kernel
theorem dX1_stoppedBy_37 : decode cX1_stoppedBy 37 = .ok (.ireturn, 1) := by decide +kernel
set_option maxRecDepth 20000 in
theorem ggX1_stoppedBetween_X0_begin : GoodIn wsX1_stoppedBetween wsX0_begin := goodIn_r _ [6, 7, 8, 9, 10, 11, 12, 13, 14, 15, 16, 17, 18, 19, 20, 21, 22, 23, 24, 25, 26, 27, 28, 75, 76, 77, 78, 79, 80, 81, 82, 83] (by decide +kernel) (by decide +kernel)
set_option maxRecDepth 20000 in
theorem gX1_stoppedBetween_X0_begin : GoodIn wsX1_stoppedBetween (wsV RX1 183 RX0 yX0_begin wsX0_begin) := goodIn_app (goodIn_of _ (by decide +kernel)) ggX1_stoppedBetween_X0_begin
set_option maxRecDepth 20000 in
theorem ggX1_stoppedBetween_X0_goesOn : GoodIn wsX1_stoppedBetween wsX0_goesOn := goodIn_r _ [32, 17, 15, 18, 16, 75, 76, 77, 78, 79, 80, 81, 82, 83] (by decide +kernel) (by decide +kernel)
set_option maxRecDepth 20000 in
theorem gX1_stoppedBetween_X0_goesOn : GoodIn wsX1_stoppedBetween (wsV RX1 186 RX0 yX0_goesOn wsX0_goesOn) := goodIn_app (goodIn_of _ (by decide +kernel)) ggX1_stoppedBetween_X0_goesOn
set_option maxRecDepth 20000 in
theorem ggX1_stoppedBetween_X0_step : GoodIn wsX1_stoppedBetween wsX0_step := goodIn_r _ [36, 17, 16, 18, 15, 19, 7, 9, 8, 10, 75, 76, 77, 78, 79, 80, 81, 82, 83] (by decide +kernel) (by decide +kernel)
set_option maxRecDepth 20000 in
theorem gX1_stoppedBetween_X0_step : GoodIn wsX1_stoppedBetween (wsV RX1 190 RX0 yX0_step wsX0_step) := goodIn_app (goodIn_of _ (by decide +kernel)) ggX1_stoppedBetween_X0_step
set_option maxRecDepth 20000 in
theorem ggX1_stoppedBetween_X0_wentThroughCorner : GoodIn wsX1_stoppedBetween wsX0_wentThroughCorner := goodIn_r _ [40, 19, 75, 76, 77, 78, 79, 80, 81, 82, 83] (by decide +kernel) (by decide +kernel)
set_option maxRecDepth 20000 in
theorem gX1_stoppedBetween_X0_wentThroughCorner : GoodIn wsX1_stoppedBetween (wsV RX1 247 RX0 yX0_wentThroughCorner wsX0_wentThroughCorner) := goodIn_app (goodIn_of _ (by decide +kernel)) ggX1_stoppedBetween_X0_wentThroughCorner
set_option maxRecDepth 20000 in
theorem ggX1_stoppedBetween_X0_cornerByX : GoodIn wsX1_stoppedBetween wsX0_cornerByX := goodIn_r _ [44, 7, 8, 10, 45, 21, 46, 75, 76, 77, 78, 79, 80, 81, 82, 83] (by decide +kernel) (by decide +kernel)
set_option maxRecDepth 20000 in
theorem gX1_stoppedBetween_X0_cornerByX : GoodIn wsX1_stoppedBetween (wsV RX1 250 RX0 yX0_cornerByX wsX0_cornerByX) := goodIn_app (goodIn_of _ (by decide +kernel)) ggX1_stoppedBetween_X0_cornerByX
set_option maxRecDepth 20000 in
theorem ggX1_stoppedBetween_X1_stoppedBy : GoodIn wsX1_stoppedBetween wsX1_stoppedBy := goodIn_r _ [50, 51, 52, 53, 21, 54, 55, 64, 65, 66, 67, 68, 69, 70, 71, 72, 73, 74] (by decide +kernel) (by decide +kernel)
set_option maxRecDepth 20000 in
theorem gX1_stoppedBetween_X1_stoppedBy : GoodIn wsX1_stoppedBetween (wsV RX1 253 RX1 yX1_stoppedBy wsX1_stoppedBy) := goodIn_app (goodIn_of _ (by decide +kernel)) ggX1_stoppedBetween_X1_stoppedBy
set_option maxRecDepth 20000 in
theorem ggX1_stoppedBetween_X0_cornerByY : GoodIn wsX1_stoppedBetween wsX0_cornerByY := goodIn_r _ [59, 7, 9, 8, 45, 21, 46, 75, 76, 77, 78, 79, 80, 81, 82, 83] (by decide +kernel) (by decide +kernel)
set_option maxRecDepth 20000 in
theorem gX1_stoppedBetween_X0_cornerByY : GoodIn wsX1_stoppedBetween (wsV RX1 256 RX0 yX0_cornerByY wsX0_cornerByY) := goodIn_app (goodIn_of _ (by decide +kernel)) ggX1_stoppedBetween_X0_cornerByY
set_option maxRecDepth 20000 in
theorem ggX1_stoppedBetween_X0_cell : GoodIn wsX1_stoppedBetween wsX0_cell := goodIn_r _ [63, 7, 8, 45, 21, 46, 75, 76, 77, 78, 79, 80, 81, 82, 83] (by decide +kernel) (by decide +kernel)
set_option maxRecDepth 20000 in
theorem gX1_stoppedBetween_X0_cell : GoodIn wsX1_stoppedBetween (wsV RX1 259 RX0 yX0_cell wsX0_cell) := goodIn_app (goodIn_of _ (by decide +kernel)) ggX1_stoppedBetween_X0_cell
theorem dX1_stoppedBetween_0 : decode cX1_stoppedBetween 0 = .ok (.iconst 0, 1) := by decide +kernel
theorem dX1_stoppedBetween_1 : decode cX1_stoppedBetween 1 = .ok (.istore_n 3, 1) := by decide +kernel
theorem dX1_stoppedBetween_2 : decode cX1_stoppedBetween 2 = .ok (.aload_n 0, 1) := by decide +kernel
theorem dX1_stoppedBetween_3 : decode cX1_stoppedBetween 3 = .ok (.getfield 34, 3) := by decide +kernel
theorem dX1_stoppedBetween_6 : decode cX1_stoppedBetween 6 = .ok (.iload_n 1, 1) := by decide +kernel
theorem dX1_stoppedBetween_7 : decode cX1_stoppedBetween 7 = .ok (.iload_n 2, 1) := by decide +kernel
theorem dX1_stoppedBetween_8 : decode cX1_stoppedBetween 8 = .ok (.invokevirtual 183, 3) := by decide +kernel
theorem dX1_stoppedBetween_11 : decode cX1_stoppedBetween 11 = .ok (.iconst 0, 1) := by decide +kernel
theorem dX1_stoppedBetween_12 : decode cX1_stoppedBetween 12 = .ok (.istore 4, 2) := by decide +kernel
theorem dX1_stoppedBetween_14 : decode cX1_stoppedBetween 14 = .ok (.iload 4, 2) := by decide +kernel
theorem dX1_stoppedBetween_16 : decode cX1_stoppedBetween 16 = .ok (.bipush 22, 2) := by decide +kernel
theorem dX1_stoppedBetween_18 : decode cX1_stoppedBetween 18 = .ok (.if_icmp .ge 86, 3) := by decide +kernel
theorem dX1_stoppedBetween_21 : decode cX1_stoppedBetween 21 = .ok (.aload_n 0, 1) := by decide +kernel
theorem dX1_stoppedBetween_22 : decode cX1_stoppedBetween 22 = .ok (.getfield 34, 3) := by decide +kernel
theorem dX1_stoppedBetween_25 : decode cX1_stoppedBetween 25 = .ok (.invokevirtual 186, 3) := by decide +kernel
theorem dX1_stoppedBetween_28 : decode cX1_stoppedBetween 28 = .ok (.ifCond .eq 76, 3) := by decide +kernel
theorem dX1_stoppedBetween_31 : decode cX1_stoppedBetween 31 = .ok (.aload_n 0, 1) := by decide +kernel
theorem dX1_stoppedBetween_32 : decode cX1_stoppedBetween 32 = .ok (.getfield 34, 3) := by decide +kernel
theorem dX1_stoppedBetween_35 : decode cX1_stoppedBetween 35 = .ok (.invokevirtual 190, 3) := by decide +kernel
theorem dX1_stoppedBetween_38 : decode cX1_stoppedBetween 38 = .ok (.aload_n 0, 1) := by decide +kernel
theorem dX1_stoppedBetween_39 : decode cX1_stoppedBetween 39 = .ok (.getfield 34, 3) := by decide +kernel
theorem dX1_stoppedBetween_42 : decode cX1_stoppedBetween 42 = .ok (.invokevirtual 247, 3) := by decide +kernel
theorem dX1_stoppedBetween_45 : decode cX1_stoppedBetween 45 = .ok (.ifCond .eq 29, 3) := by decide +kernel
theorem dX1_stoppedBetween_48 : decode cX1_stoppedBetween 48 = .ok (.iload_n 3, 1) := by decide +kernel
theorem dX1_stoppedBetween_49 : decode cX1_stoppedBetween 49 = .ok (.aload_n 0, 1) := by decide +kernel
theorem dX1_stoppedBetween_50 : decode cX1_stoppedBetween 50 = .ok (.aload_n 0, 1) := by decide +kernel
theorem dX1_stoppedBetween_51 : decode cX1_stoppedBetween 51 = .ok (.getfield 34, 3) := by decide +kernel
theorem dX1_stoppedBetween_54 : decode cX1_stoppedBetween 54 = .ok (.invokevirtual 250, 3) := by decide +kernel
theorem dX1_stoppedBetween_57 : decode cX1_stoppedBetween 57 = .ok (.invokevirtual 253, 3) := by decide +kernel
theorem dX1_stoppedBetween_60 : decode cX1_stoppedBetween 60 = .ok (.aload_n 0, 1) := by decide +kernel
theorem dX1_stoppedBetween_61 : decode cX1_stoppedBetween 61 = .ok (.aload_n 0, 1) := by decide +kernel
theorem dX1_stoppedBetween_62 : decode cX1_stoppedBetween 62 = .ok (.getfield 34, 3) := by decide +kernel
theorem dX1_stoppedBetween_65 : decode cX1_stoppedBetween 65 = .ok (.invokevirtual 256, 3) := by decide +kernel
theorem dX1_stoppedBetween_68 : decode cX1_stoppedBetween 68 = .ok (.invokevirtual 253, 3) := by decide +kernel
theorem dX1_stoppedBetween_71 : decode cX1_stoppedBetween 71 = .ok (.iand, 1) := by decide +kernel
theorem dX1_stoppedBetween_72 : decode cX1_stoppedBetween 72 = .ok (.ior, 1) := by decide +kernel
theorem dX1_stoppedBetween_73 : decode cX1_stoppedBetween 73 = .ok (.istore_n 3, 1) := by decide +kernel
theorem dX1_stoppedBetween_74 : decode cX1_stoppedBetween 74 = .ok (.aload_n 0, 1) := by decide +kernel
theorem dX1_stoppedBetween_75 : decode cX1_stoppedBetween 75 = .ok (.getfield 34, 3) := by decide +kernel
theorem dX1_stoppedBetween_78 : decode cX1_stoppedBetween 78 = .ok (.invokevirtual 186, 3) := by decide +kernel
theorem dX1_stoppedBetween_81 : decode cX1_stoppedBetween 81 = .ok (.ifCond .eq 17, 3) := by decide +kernel
theorem dX1_stoppedBetween_84 : decode cX1_stoppedBetween 84 = .ok (.iload_n 3, 1) := by decide +kernel
theorem dX1_stoppedBetween_85 : decode cX1_stoppedBetween 85 = .ok (.aload_n 0, 1) := by decide +kernel
theorem dX1_stoppedBetween_86 : decode cX1_stoppedBetween 86 = .ok (.aload_n 0, 1) := by decide +kernel
theorem dX1_stoppedBetween_87 : decode cX1_stoppedBetween 87 = .ok (.getfield 34, 3) := by decide +kernel
theorem dX1_stoppedBetween_90 : decode cX1_stoppedBetween 90 = .ok (.invokevirtual 259, 3) := by decide +kernel
theorem dX1_stoppedBetween_93 : decode cX1_stoppedBetween 93 = .ok (.invokevirtual 253, 3) := by decide +kernel
theorem dX1_stoppedBetween_96 : decode cX1_stoppedBetween 96 = .ok (.ior, 1) := by decide +kernel
theorem dX1_stoppedBetween_97 : decode cX1_stoppedBetween 97 = .ok (.istore_n 3, 1) := by decide +kernel
theorem dX1_stoppedBetween_98 : decode cX1_stoppedBetween 98 = .ok (.iinc 4 1, 3) := by decide +kernel
theorem dX1_stoppedBetween_101 : decode cX1_stoppedBetween 101 = .ok (.goto (-87), 3) := by decide +kernel
theorem dX1_stoppedBetween_104 : decode cX1_stoppedBetween 104 = .ok (.iload_n 3, 1) := by decide +kernel
theorem dX1_stoppedBetween_105 : decode cX1_stoppedBetween 105 = .ok (.ireturn, 1) := by decide +kernel
theorem dX1_cellOfLamp_0 : decode cX1_cellOfLamp 0 = .ok (.iload_n 1, 1) := by decide +kernel
theorem dX1_cellOfLamp_1 : decode cX1_cellOfLamp 1 = .ok (.ifCond .lt 21, 3) := by decide +kernel
theorem dX1_cellOfLamp_4 : decode cX1_cellOfLamp 4 = .ok (.iload_n 1, 1) := by decide +kernel
theorem dX1_cellOfLamp_5 : decode cX1_cellOfLamp 5 = .ok (.aload_n 0, 1) := by decide +kernel
theorem dX1_cellOfLamp_6 : decode cX1_cellOfLamp 6 = .ok (.getfield 13, 3) := by decide +kernel
theorem dX1_cellOfLamp_9 : decode cX1_cellOfLamp 9 = .ok (.arraylength, 1) := by decide +kernel
theorem dX1_cellOfLamp_10 : decode cX1_cellOfLamp 10 = .ok (.if_icmp .ge 12, 3) := by decide +kernel
theorem dX1_cellOfLamp_13 : decode cX1_cellOfLamp 13 = .ok (.aload_n 0, 1) := by decide +kernel
theorem dX1_cellOfLamp_14 : decode cX1_cellOfLamp 14 = .ok (.getfield 13, 3) := by decide +kernel
theorem dX1_cellOfLamp_17 : decode cX1_cellOfLamp 17 = .ok (.iload_n 1, 1) := by decide +kernel
theorem dX1_cellOfLamp_18 : decode cX1_cellOfLamp 18 = .ok (.iaload, 1) := by decide +kernel
theorem dX1_cellOfLamp_19 : decode cX1_cellOfLamp 19 = .ok (.goto 4, 3) := by decide +kernel
theorem dX1_cellOfLamp_22 : decode cX1_cellOfLamp 22 = .ok (.iconst (-1), 1) := by decide +kernel
theorem dX1_cellOfLamp_23 : decode cX1_cellOfLamp 23 = .ok (.ireturn, 1) := by decide +kernel
theorem dX1_putLamp_0 : decode cX1_putLamp 0 = .ok (.iload_n 1, 1) := by decide +kernel
theorem dX1_putLamp_1 : decode cX1_putLamp 1 = .ok (.ifCond .lt 19, 3) := by decide +kernel
theorem dX1_putLamp_4 : decode cX1_putLamp 4 = .ok (.iload_n 1, 1) := by decide +kernel
theorem dX1_putLamp_5 : decode cX1_putLamp 5 = .ok (.aload_n 0, 1) := by decide +kernel
theorem dX1_putLamp_6 : decode cX1_putLamp 6 = .ok (.getfield 13, 3) := by decide +kernel
theorem dX1_putLamp_9 : decode cX1_putLamp 9 = .ok (.arraylength, 1) := by decide +kernel
theorem dX1_putLamp_10 : decode cX1_putLamp 10 = .ok (.if_icmp .ge 10, 3) := by decide +kernel
theorem dX1_putLamp_13 : decode cX1_putLamp 13 = .ok (.aload_n 0, 1) := by decide +kernel
theorem dX1_putLamp_14 : decode cX1_putLamp 14 = .ok (.getfield 13, 3) := by decide +kernel
theorem dX1_putLamp_17 : decode cX1_putLamp 17 = .ok (.iload_n 1, 1) := by decide +kernel
theorem dX1_putLamp_18 : decode cX1_putLamp 18 = .ok (.iload_n 2, 1) := by decide +kernel
theorem dX1_putLamp_19 : decode cX1_putLamp 19 = .ok (.iastore, 1) := by decide +kernel
theorem dX1_putLamp_20 : decode cX1_putLamp 20 = .ok (.return_, 1) := by decide +kernel
theorem dX1_reachOf_0 : decode cX1_reachOf 0 = .ok (.iload_n 1, 1) := by decide +kernel
theorem dX1_reachOf_1 : decode cX1_reachOf 1 = .ok (.ifCond .lt 21, 3) := by decide +kernel
theorem dX1_reachOf_4 : decode cX1_reachOf 4 = .ok (.iload_n 1, 1) := by decide +kernel
theorem dX1_reachOf_5 : decode cX1_reachOf 5 = .ok (.aload_n 0, 1) := by decide +kernel
theorem dX1_reachOf_6 : decode cX1_reachOf 6 = .ok (.getfield 16, 3) := by decide +kernel
theorem dX1_reachOf_9 : decode cX1_reachOf 9 = .ok (.arraylength, 1) := by decide +kernel
theorem dX1_reachOf_10 : decode cX1_reachOf 10 = .ok (.if_icmp .ge 12, 3) := by decide +kernel
theorem dX1_reachOf_13 : decode cX1_reachOf 13 = .ok (.aload_n 0, 1) := by decide +kernel
theorem dX1_reachOf_14 : decode cX1_reachOf 14 = .ok (.getfield 16, 3) := by decide +kernel
theorem dX1_reachOf_17 : decode cX1_reachOf 17 = .ok (.iload_n 1, 1) := by decide +kernel
theorem dX1_reachOf_18 : decode cX1_reachOf 18 = .ok (.iaload, 1) := by decide +kernel
theorem dX1_reachOf_19 : decode cX1_reachOf 19 = .ok (.goto 4, 3) := by decide +kernel
theorem dX1_reachOf_22 : decode cX1_reachOf 22 = .ok (.iconst 0, 1) := by decide +kernel
theorem dX1_reachOf_23 : decode cX1_reachOf 23 = .ok (.ireturn, 1) := by decide +kernel
theorem dX1_putReach_0 : decode cX1_putReach 0 = .ok (.iload_n 1, 1) := by decide +kernel
theorem dX1_putReach_1 : decode cX1_putReach 1 = .ok (.ifCond .lt 19, 3) := by decide +kernel
theorem dX1_putReach_4 : decode cX1_putReach 4 = .ok (.iload_n 1, 1) := by decide +kernel
theorem dX1_putReach_5 : decode cX1_putReach 5 = .ok (.aload_n 0, 1) := by decide +kernel
theorem dX1_putReach_6 : decode cX1_putReach 6 = .ok (.getfield 16, 3) := by decide +kernel
theorem dX1_putReach_9 : decode cX1_putReach 9 = .ok (.arraylength, 1) := by decide +kernel
theorem dX1_putReach_10 : decode cX1_putReach 10 = .ok (.if_icmp .ge 10, 3) := by decide +kernel
theorem dX1_putReach_13 : decode cX1_putReach 13 = .ok (.aload_n 0, 1) := by decide +kernel
theorem dX1_putReach_14 : decode cX1_putReach 14 = .ok (.getfield 16, 3) := by decide +kernel
theorem dX1_putReach_17 : decode cX1_putReach 17 = .ok (.iload_n 1, 1) := by decide +kernel
theorem dX1_putReach_18 : decode cX1_putReach 18 = .ok (.iload_n 2, 1) := by decide +kernel
theorem dX1_putReach_19 : decode cX1_putReach 19 = .ok (.iastore, 1) := by decide +kernel
theorem dX1_putReach_20 : decode cX1_putReach 20 = .ok (.return_, 1) := by decide +kernel
set_option maxRecDepth 20000 in
theorem ggX1_isLampAt_X1_cellOfLamp : GoodIn wsX1_isLampAt wsX1_cellOfLamp := goodIn_r _ [6, 7, 8, 9, 10, 11, 12, 13, 14, 15, 16, 17, 18] (by decide +kernel) (by decide +kernel)
set_option maxRecDepth 20000 in
theorem gX1_isLampAt_X1_cellOfLamp : GoodIn wsX1_isLampAt (wsV RX1 140 RX1 yX1_cellOfLamp wsX1_cellOfLamp) := goodIn_app (goodIn_of _ (by decide +kernel)) ggX1_isLampAt_X1_cellOfLamp
theorem dX1_isLampAt_0 : decode cX1_isLampAt 0 = .ok (.iconst 0, 1) := by decide +kernel
theorem dX1_isLampAt_1 : decode cX1_isLampAt 1 = .ok (.istore_n 2, 1) := by decide +kernel
theorem dX1_isLampAt_2 : decode cX1_isLampAt 2 = .ok (.iload_n 2, 1) := by decide +kernel
theorem dX1_isLampAt_3 : decode cX1_isLampAt 3 = .ok (.aload_n 0, 1) := by decide +kernel
theorem dX1_isLampAt_4 : decode cX1_isLampAt 4 = .ok (.getfield 63, 3) := by decide +kernel
theorem dX1_isLampAt_7 : decode cX1_isLampAt 7 = .ok (.if_icmp .ge 20, 3) := by decide +kernel
theorem dX1_isLampAt_10 : decode cX1_isLampAt 10 = .ok (.aload_n 0, 1) := by decide +kernel
theorem dX1_isLampAt_11 : decode cX1_isLampAt 11 = .ok (.iload_n 2, 1) := by decide +kernel
theorem dX1_isLampAt_12 : decode cX1_isLampAt 12 = .ok (.invokevirtual 140, 3) := by decide +kernel
theorem dX1_isLampAt_15 : decode cX1_isLampAt 15 = .ok (.iload_n 1, 1) := by decide +kernel
theorem dX1_isLampAt_16 : decode cX1_isLampAt 16 = .ok (.if_icmp .ne 5, 3) := by decide +kernel
theorem dX1_isLampAt_19 : decode cX1_isLampAt 19 = .ok (.iconst 1, 1) := by decide +kernel
theorem dX1_isLampAt_20 : decode cX1_isLampAt 20 = .ok (.ireturn, 1) := by decide +kernel
theorem dX1_isLampAt_21 : decode cX1_isLampAt 21 = .ok (.iinc 2 1, 3) := by decide +kernel
theorem dX1_isLampAt_24 : decode cX1_isLampAt 24 = .ok (.goto (-22), 3) := by decide +kernel
theorem dX1_isLampAt_27 : decode cX1_isLampAt 27 = .ok (.iconst 0, 1) := by decide +kernel
theorem dX1_isLampAt_28 : decode cX1_isLampAt 28 = .ok (.ireturn, 1) := by decide +kernel
set_option maxRecDepth 20000 in
theorem ggX1_shineAll_X1_shine : GoodIn wsX1_shineAll wsX1_shine := goodIn_r _ [6, 7, 8, 9, 10, 5, 11, 12, 13, 14, 15, 16, 17, 18, 19, 20, 21, 22, 23, 24, 25, 26, 27, 28, 29, 30, 31, 32, 33, 34, 35, 36, 37, 38, 39, 40, 41, 42, 43, 44, 45, 46, 47, 48, 49, 50, 51, 52, 53, 54, 55, 56, 57, 58, 59, 60, 61, 62, 63, 64, 65, 66, 67, 68, 69, 70, 71, 72, 73, 74, 75, 76, 77, 78, 79, 80, 81, 82, 83, 84, 85, 86, 87, 88, 89, 90, 91, 92, 93, 94, 95, 96, 97, 98, 99, 100, 101, 102, 103, 104, 105, 106, 107, 108, 109] (by decide +kernel) (by decide +kernel)
set_option maxRecDepth 20000 in
theorem gX1_shineAll_X1_shine : GoodIn wsX1_shineAll (wsV RX1 80 RX1 yX1_shine wsX1_shine) := goodIn_app (goodIn_of _ (by decide +kernel)) ggX1_shineAll_X1_shine
theorem dX1_shineAll_0 : decode cX1_shineAll 0 = .ok (.iconst 0, 1) := by decide +kernel
theorem dX1_shineAll_1 : decode cX1_shineAll 1 = .ok (.istore_n 1, 1) := by decide +kernel
theorem dX1_shineAll_2 : decode cX1_shineAll 2 = .ok (.iload_n 1, 1) := by decide +kernel
theorem dX1_shineAll_3 : decode cX1_shineAll 3 = .ok (.aload_n 0, 1) := by decide +kernel
theorem dX1_shineAll_4 : decode cX1_shineAll 4 = .ok (.getfield 63, 3) := by decide +kernel
theorem dX1_shineAll_7 : decode cX1_shineAll 7 = .ok (.if_icmp .ge 14, 3) := by decide +kernel
theorem dX1_shineAll_10 : decode cX1_shineAll 10 = .ok (.aload_n 0, 1) := by decide +kernel
theorem dX1_shineAll_11 : decode cX1_shineAll 11 = .ok (.iload_n 1, 1) := by decide +kernel
theorem dX1_shineAll_12 : decode cX1_shineAll 12 = .ok (.invokevirtual 80, 3) := by decide +kernel
theorem dX1_shineAll_15 : decode cX1_shineAll 15 = .ok (.iinc 1 1, 3) := by decide +kernel
theorem dX1_shineAll_18 : decode cX1_shineAll 18 = .ok (.goto (-16), 3) := by decide +kernel
theorem dX1_shineAll_21 : decode cX1_shineAll 21 = .ok (.return_, 1) := by decide +kernel
set_option maxRecDepth 20000 in
theorem ggX1_shine_X1_shinesOn : GoodIn wsX1_shine wsX1_shinesOn := goodIn_r _ [6, 7, 8, 9, 5, 10, 11, 12, 13, 14, 15, 16, 17, 18, 19, 20, 21, 22, 23, 24, 25, 26, 27, 28, 29, 30, 31, 32, 33, 34, 35, 36, 37, 38, 39, 40, 41, 42, 43, 44, 45, 46, 47, 48, 49, 50, 51, 52, 53, 54, 55, 56, 57, 58, 59, 60, 61, 62, 63, 64, 65, 66, 67, 68, 69, 70, 71, 72, 73, 74, 75, 76, 77, 78, 79, 80, 81, 82, 83, 84, 85, 86, 87, 88, 89, 90, 91, 92, 93, 94, 95, 96, 97, 98, 99, 100, 101, 102, 103, 104] (by decide +kernel) (by decide +kernel)
set_option maxRecDepth 20000 in
theorem gX1_shine_X1_shinesOn : GoodIn wsX1_shine (wsV RX1 262 RX1 yX1_shinesOn wsX1_shinesOn) := goodIn_app (goodIn_of _ (by decide +kernel)) ggX1_shine_X1_shinesOn
theorem dX1_shine_0 : decode cX1_shine 0 = .ok (.iconst 1, 1) := by decide +kernel
theorem dX1_shine_1 : decode cX1_shine 1 = .ok (.iload_n 1, 1) := by decide +kernel
theorem dX1_shine_2 : decode cX1_shine 2 = .ok (.ishl, 1) := by decide +kernel
theorem dX1_shine_3 : decode cX1_shine 3 = .ok (.istore_n 2, 1) := by decide +kernel
theorem dX1_shine_4 : decode cX1_shine 4 = .ok (.iconst 0, 1) := by decide +kernel
theorem dX1_shine_5 : decode cX1_shine 5 = .ok (.istore_n 3, 1) := by decide +kernel
theorem dX1_shine_6 : decode cX1_shine 6 = .ok (.iload_n 3, 1) := by decide +kernel
theorem dX1_shine_7 : decode cX1_shine 7 = .ok (.aload_n 0, 1) := by decide +kernel
theorem dX1_shine_8 : decode cX1_shine 8 = .ok (.getfield 22, 3) := by decide +kernel
theorem dX1_shine_11 : decode cX1_shine 11 = .ok (.arraylength, 1) := by decide +kernel
theorem dX1_shine_12 : decode cX1_shine 12 = .ok (.if_icmp .ge 45, 3) := by decide +kernel
theorem dX1_shine_15 : decode cX1_shine 15 = .ok (.aload_n 0, 1) := by decide +kernel
theorem dX1_shine_16 : decode cX1_shine 16 = .ok (.getfield 22, 3) := by decide +kernel
theorem dX1_shine_19 : decode cX1_shine 19 = .ok (.iload_n 3, 1) := by decide +kernel
theorem dX1_shine_20 : decode cX1_shine 20 = .ok (.aload_n 0, 1) := by decide +kernel
theorem dX1_shine_21 : decode cX1_shine 21 = .ok (.iload_n 1, 1) := by decide +kernel
theorem dX1_shine_22 : decode cX1_shine 22 = .ok (.iload_n 3, 1) := by decide +kernel
theorem dX1_shine_23 : decode cX1_shine 23 = .ok (.invokevirtual 262, 3) := by decide +kernel
theorem dX1_shine_26 : decode cX1_shine 26 = .ok (.ifCond .eq 14, 3) := by decide +kernel
theorem dX1_shine_29 : decode cX1_shine 29 = .ok (.aload_n 0, 1) := by decide +kernel
theorem dX1_shine_30 : decode cX1_shine 30 = .ok (.getfield 22, 3) := by decide +kernel
theorem dX1_shine_33 : decode cX1_shine 33 = .ok (.iload_n 3, 1) := by decide +kernel
theorem dX1_shine_34 : decode cX1_shine 34 = .ok (.iaload, 1) := by decide +kernel
theorem dX1_shine_35 : decode cX1_shine 35 = .ok (.iload_n 2, 1) := by decide +kernel
theorem dX1_shine_36 : decode cX1_shine 36 = .ok (.ior, 1) := by decide +kernel
theorem dX1_shine_37 : decode cX1_shine 37 = .ok (.goto 13, 3) := by decide +kernel
theorem dX1_shine_40 : decode cX1_shine 40 = .ok (.aload_n 0, 1) := by decide +kernel
theorem dX1_shine_41 : decode cX1_shine 41 = .ok (.getfield 22, 3) := by decide +kernel
theorem dX1_shine_44 : decode cX1_shine 44 = .ok (.iload_n 3, 1) := by decide +kernel
theorem dX1_shine_45 : decode cX1_shine 45 = .ok (.iaload, 1) := by decide +kernel
theorem dX1_shine_46 : decode cX1_shine 46 = .ok (.iload_n 2, 1) := by decide +kernel
theorem dX1_shine_47 : decode cX1_shine 47 = .ok (.iconst (-1), 1) := by decide +kernel
theorem dX1_shine_48 : decode cX1_shine 48 = .ok (.ixor, 1) := by decide +kernel
theorem dX1_shine_49 : decode cX1_shine 49 = .ok (.iand, 1) := by decide +kernel
theorem dX1_shine_50 : decode cX1_shine 50 = .ok (.iastore, 1) := by decide +kernel
theorem dX1_shine_51 : decode cX1_shine 51 = .ok (.iinc 3 1, 3) := by decide +kernel
theorem dX1_shine_54 : decode cX1_shine 54 = .ok (.goto (-48), 3) := by decide +kernel
theorem dX1_shine_57 : decode cX1_shine 57 = .ok (.return_, 1) := by decide +kernel
set_option maxRecDepth 20000 in
theorem ggX1_shinesOn_X1_cellOfLamp : GoodIn wsX1_shinesOn wsX1_cellOfLamp := goodIn_r _ [5, 6, 80, 81, 82, 83, 84, 85, 86, 87, 88, 89, 90] (by decide +kernel) (by decide +kernel)
set_option maxRecDepth 20000 in
theorem gX1_shinesOn_X1_cellOfLamp : GoodIn wsX1_shinesOn (wsV RX1 140 RX1 yX1_cellOfLamp wsX1_cellOfLamp) := goodIn_app (goodIn_of _ (by decide +kernel)) ggX1_shinesOn_X1_cellOfLamp
set_option maxRecDepth 20000 in
theorem ggX1_shinesOn_X1_reachOf : GoodIn wsX1_shinesOn wsX1_reachOf := goodIn_r _ [10, 11, 80, 81, 82, 83, 84, 85, 86, 87, 88, 89, 90] (by decide +kernel) (by decide +kernel)
set_option maxRecDepth 20000 in
theorem gX1_shinesOn_X1_reachOf : GoodIn wsX1_shinesOn (wsV RX1 93 RX1 yX1_reachOf wsX1_reachOf) := goodIn_app (goodIn_of _ (by decide +kernel)) ggX1_shinesOn_X1_reachOf
set_option maxRecDepth 20000 in
theorem ggX1_shinesOn_X1_columnOf : GoodIn wsX1_shinesOn wsX1_columnOf := goodIn_r _ [14] (by decide +kernel) (by decide +kernel)
set_option maxRecDepth 20000 in
theorem gX1_shinesOn_X1_columnOf : GoodIn wsX1_shinesOn (va_wsS RX1 244 yX1_columnOf wsX1_columnOf) := goodIn_app (goodIn_of _ (by decide +kernel)) ggX1_shinesOn_X1_columnOf
set_option maxRecDepth 20000 in
theorem ggX1_shinesOn_X1_rowOf : GoodIn wsX1_shinesOn wsX1_rowOf := goodIn_r _ [17] (by decide +kernel) (by decide +kernel)
set_option maxRecDepth 20000 in
theorem gX1_shinesOn_X1_rowOf : GoodIn wsX1_shinesOn (va_wsS RX1 241 yX1_rowOf wsX1_rowOf) := goodIn_app (goodIn_of _ (by decide +kernel)) ggX1_shinesOn_X1_rowOf
set_option maxRecDepth 20000 in
theorem ggX1_shinesOn_X1_stoppedBetween : GoodIn wsX1_shinesOn wsX1_stoppedBetween := goodIn_r _ [21, 22, 23, 24, 25, 26, 27, 28, 29, 30, 31, 32, 33, 34, 35, 36, 37, 38, 39, 40, 13, 4, 14, 16, 17, 41, 42, 43, 44, 45, 46, 47, 48, 49, 50, 51, 52, 53, 54, 55, 56, 57, 58, 59, 60, 61, 62, 63, 64, 65, 66, 67, 68, 69, 70, 71, 72, 73, 74, 75, 76, 77, 78, 79, 80, 81, 82, 83, 84, 85, 86, 87, 88, 89, 90, 91, 92, 93, 94, 95, 96, 97, 98, 99] (by decide +kernel) (by decide +kernel)
set_option maxRecDepth 20000 in
theorem gX1_shinesOn_X1_stoppedBetween : GoodIn wsX1_shinesOn (wsV RX1 193 RX1 yX1_stoppedBetween wsX1_stoppedBetween) := goodIn_app (goodIn_of _ (by decide +kernel)) ggX1_shinesOn_X1_stoppedBetween
theorem dX1_shinesOn_0 : decode cX1_shinesOn 0 = .ok (.aload_n 0, 1) := by decide +kernel
theorem dX1_shinesOn_1 : decode cX1_shinesOn 1 = .ok (.iload_n 1, 1) := by decide +kernel
theorem dX1_shinesOn_2 : decode cX1_shinesOn 2 = .ok (.invokevirtual 140, 3) := by decide +kernel
theorem dX1_shinesOn_5 : decode cX1_shinesOn 5 = .ok (.istore_n 3, 1) := by decide +kernel
theorem dX1_shinesOn_6 : decode cX1_shinesOn 6 = .ok (.aload_n 0, 1) := by decide +kernel
theorem dX1_shinesOn_7 : decode cX1_shinesOn 7 = .ok (.iload_n 1, 1) := by decide +kernel
theorem dX1_shinesOn_8 : decode cX1_shinesOn 8 = .ok (.invokevirtual 93, 3) := by decide +kernel
theorem dX1_shinesOn_11 : decode cX1_shinesOn 11 = .ok (.istore 4, 2) := by decide +kernel
theorem dX1_shinesOn_13 : decode cX1_shinesOn 13 = .ok (.iload_n 2, 1) := by decide +kernel
theorem dX1_shinesOn_14 : decode cX1_shinesOn 14 = .ok (.invokestatic 244, 3) := by decide +kernel
theorem dX1_shinesOn_17 : decode cX1_shinesOn 17 = .ok (.iload_n 3, 1) := by decide +kernel
theorem dX1_shinesOn_18 : decode cX1_shinesOn 18 = .ok (.invokestatic 244, 3) := by decide +kernel
theorem dX1_shinesOn_21 : decode cX1_shinesOn 21 = .ok (.isub, 1) := by decide +kernel
theorem dX1_shinesOn_22 : decode cX1_shinesOn 22 = .ok (.istore 5, 2) := by decide +kernel
theorem dX1_shinesOn_24 : decode cX1_shinesOn 24 = .ok (.iload_n 2, 1) := by decide +kernel
theorem dX1_shinesOn_25 : decode cX1_shinesOn 25 = .ok (.invokestatic 241, 3) := by decide +kernel
theorem dX1_shinesOn_28 : decode cX1_shinesOn 28 = .ok (.iload_n 3, 1) := by decide +kernel
theorem dX1_shinesOn_29 : decode cX1_shinesOn 29 = .ok (.invokestatic 241, 3) := by decide +kernel
theorem dX1_shinesOn_32 : decode cX1_shinesOn 32 = .ok (.isub, 1) := by decide +kernel
theorem dX1_shinesOn_33 : decode cX1_shinesOn 33 = .ok (.istore 6, 2) := by decide +kernel
theorem dX1_shinesOn_35 : decode cX1_shinesOn 35 = .ok (.iload 5, 2) := by decide +kernel
theorem dX1_shinesOn_37 : decode cX1_shinesOn 37 = .ok (.iload 5, 2) := by decide +kernel
theorem dX1_shinesOn_39 : decode cX1_shinesOn 39 = .ok (.imul, 1) := by decide +kernel
theorem dX1_shinesOn_40 : decode cX1_shinesOn 40 = .ok (.iload 6, 2) := by decide +kernel
theorem dX1_shinesOn_42 : decode cX1_shinesOn 42 = .ok (.iload 6, 2) := by decide +kernel
theorem dX1_shinesOn_44 : decode cX1_shinesOn 44 = .ok (.imul, 1) := by decide +kernel
theorem dX1_shinesOn_45 : decode cX1_shinesOn 45 = .ok (.iadd, 1) := by decide +kernel
theorem dX1_shinesOn_46 : decode cX1_shinesOn 46 = .ok (.iload 4, 2) := by decide +kernel
theorem dX1_shinesOn_48 : decode cX1_shinesOn 48 = .ok (.iload 4, 2) := by decide +kernel
theorem dX1_shinesOn_50 : decode cX1_shinesOn 50 = .ok (.imul, 1) := by decide +kernel
theorem dX1_shinesOn_51 : decode cX1_shinesOn 51 = .ok (.if_icmp .gt 18, 3) := by decide +kernel
theorem dX1_shinesOn_54 : decode cX1_shinesOn 54 = .ok (.aload_n 0, 1) := by decide +kernel
theorem dX1_shinesOn_55 : decode cX1_shinesOn 55 = .ok (.iload_n 3, 1) := by decide +kernel
theorem dX1_shinesOn_56 : decode cX1_shinesOn 56 = .ok (.iload_n 2, 1) := by decide +kernel
theorem dX1_shinesOn_57 : decode cX1_shinesOn 57 = .ok (.invokevirtual 193, 3) := by decide +kernel
theorem dX1_shinesOn_60 : decode cX1_shinesOn 60 = .ok (.iconst 1, 1) := by decide +kernel
theorem dX1_shinesOn_61 : decode cX1_shinesOn 61 = .ok (.iand, 1) := by decide +kernel
theorem dX1_shinesOn_62 : decode cX1_shinesOn 62 = .ok (.ifCond .ne 7, 3) := by decide +kernel
theorem dX1_shinesOn_65 : decode cX1_shinesOn 65 = .ok (.iconst 1, 1) := by decide +kernel
theorem dX1_shinesOn_66 : decode cX1_shinesOn 66 = .ok (.goto 4, 3) := by decide +kernel
theorem dX1_shinesOn_69 : decode cX1_shinesOn 69 = .ok (.iconst 0, 1) := by decide +kernel
theorem dX1_shinesOn_70 : decode cX1_shinesOn 70 = .ok (.ireturn, 1) := by decide +kernel
theorem dX1_lampsOn_0 : decode cX1_lampsOn 0 = .ok (.iload_n 1, 1) := by decide +kernel
theorem dX1_lampsOn_1 : decode cX1_lampsOn 1 = .ok (.ifCond .lt 21, 3) := by decide +kernel
theorem dX1_lampsOn_4 : decode cX1_lampsOn 4 = .ok (.iload_n 1, 1) := by decide +kernel
theorem dX1_lampsOn_5 : decode cX1_lampsOn 5 = .ok (.aload_n 0, 1) := by decide +kernel
theorem dX1_lampsOn_6 : decode cX1_lampsOn 6 = .ok (.getfield 22, 3) := by decide +kernel
theorem dX1_lampsOn_9 : decode cX1_lampsOn 9 = .ok (.arraylength, 1) := by decide +kernel
theorem dX1_lampsOn_10 : decode cX1_lampsOn 10 = .ok (.if_icmp .ge 12, 3) := by decide +kernel
theorem dX1_lampsOn_13 : decode cX1_lampsOn 13 = .ok (.aload_n 0, 1) := by decide +kernel
theorem dX1_lampsOn_14 : decode cX1_lampsOn 14 = .ok (.getfield 22, 3) := by decide +kernel
theorem dX1_lampsOn_17 : decode cX1_lampsOn 17 = .ok (.iload_n 1, 1) := by decide +kernel
theorem dX1_lampsOn_18 : decode cX1_lampsOn 18 = .ok (.iaload, 1) := by decide +kernel
theorem dX1_lampsOn_19 : decode cX1_lampsOn 19 = .ok (.goto 4, 3) := by decide +kernel
theorem dX1_lampsOn_22 : decode cX1_lampsOn 22 = .ok (.iconst 0, 1) := by decide +kernel
theorem dX1_lampsOn_23 : decode cX1_lampsOn 23 = .ok (.ireturn, 1) := by decide +kernel
set_option maxRecDepth 20000 in
theorem ggX1_isLit_X1_lampsOn : GoodIn wsX1_isLit wsX1_lampsOn := goodIn_r _ [5, 6, 7, 8, 9, 10, 11, 12, 13, 14, 15, 16, 17] (by decide +kernel) (by decide +kernel)
set_option maxRecDepth 20000 in
theorem gX1_isLit_X1_lampsOn : GoodIn wsX1_isLit (wsV RX1 126 RX1 yX1_lampsOn wsX1_lampsOn) := goodIn_app (goodIn_of _ (by decide +kernel)) ggX1_isLit_X1_lampsOn
theorem dX1_isLit_0 : decode cX1_isLit 0 = .ok (.aload_n 0, 1) := by decide +kernel
theorem dX1_isLit_1 : decode cX1_isLit 1 = .ok (.iload_n 1, 1) := by decide +kernel
theorem dX1_isLit_2 : decode cX1_isLit 2 = .ok (.invokevirtual 126, 3) := by decide +kernel
theorem dX1_isLit_5 : decode cX1_isLit 5 = .ok (.ifCond .eq 7, 3) := by decide +kernel
theorem dX1_isLit_8 : decode cX1_isLit 8 = .ok (.iconst 1, 1) := by decide +kernel
theorem dX1_isLit_9 : decode cX1_isLit 9 = .ok (.goto 4, 3) := by decide +kernel
theorem dX1_isLit_12 : decode cX1_isLit 12 = .ok (.iconst 0, 1) := by decide +kernel
theorem dX1_isLit_13 : decode cX1_isLit 13 = .ok (.ireturn, 1) := by decide +kernel
set_option maxRecDepth 20000 in
theorem ggX1_litCells_X1_isLit : GoodIn wsX1_litCells wsX1_isLit := goodIn_r _ [5, 6, 7, 8, 4, 9, 10, 11, 12, 13, 14, 15, 16, 17, 18, 19, 20, 21] (by decide +kernel) (by decide +kernel)
set_option maxRecDepth 20000 in
theorem gX1_litCells_X1_isLit : GoodIn wsX1_litCells (wsV RX1 158 RX1 yX1_isLit wsX1_isLit) := goodIn_app (goodIn_of _ (by decide +kernel)) ggX1_litCells_X1_isLit
theorem dX1_litCells_0 : decode cX1_litCells 0 = .ok (.iconst 0, 1) := by decide +kernel
theorem dX1_litCells_1 : decode cX1_litCells 1 = .ok (.istore_n 1, 1) := by decide +kernel
theorem dX1_litCells_2 : decode cX1_litCells 2 = .ok (.iconst 0, 1) := by decide +kernel
theorem dX1_litCells_3 : decode cX1_litCells 3 = .ok (.istore_n 2, 1) := by decide +kernel
theorem dX1_litCells_4 : decode cX1_litCells 4 = .ok (.iload_n 2, 1) := by decide +kernel
theorem dX1_litCells_5 : decode cX1_litCells 5 = .ok (.sipush 144, 3) := by decide +kernel
theorem dX1_litCells_8 : decode cX1_litCells 8 = .ok (.if_icmp .ge 20, 3) := by decide +kernel
theorem dX1_litCells_11 : decode cX1_litCells 11 = .ok (.aload_n 0, 1) := by decide +kernel
theorem dX1_litCells_12 : decode cX1_litCells 12 = .ok (.iload_n 2, 1) := by decide +kernel
theorem dX1_litCells_13 : decode cX1_litCells 13 = .ok (.invokevirtual 158, 3) := by decide +kernel
theorem dX1_litCells_16 : decode cX1_litCells 16 = .ok (.ifCond .eq 6, 3) := by decide +kernel
theorem dX1_litCells_19 : decode cX1_litCells 19 = .ok (.iinc 1 1, 3) := by decide +kernel
theorem dX1_litCells_22 : decode cX1_litCells 22 = .ok (.iinc 2 1, 3) := by decide +kernel
theorem dX1_litCells_25 : decode cX1_litCells 25 = .ok (.goto (-21), 3) := by decide +kernel
theorem dX1_litCells_28 : decode cX1_litCells 28 = .ok (.iload_n 1, 1) := by decide +kernel
theorem dX1_litCells_29 : decode cX1_litCells 29 = .ok (.ireturn, 1) := by decide +kernel
set_option maxRecDepth 20000 in
theorem ggX1_litCellsAnew_X1_isShoneOn : GoodIn wsX1_litCellsAnew wsX1_isShoneOn := goodIn_r _ [5, 6, 7, 8, 9, 4, 10, 11, 12, 13, 14, 15, 16, 17, 18, 19, 20, 21, 22, 23, 24, 25, 26, 27, 28, 29, 30, 31, 32, 33, 34, 35, 36, 37, 38, 39, 40, 41, 42, 43, 44, 45, 46, 47, 48, 49, 50, 51, 52, 53, 54, 55, 56, 57, 58, 59, 60, 61, 62, 63, 64, 65, 66, 67, 68, 69, 70, 71, 72, 73, 74, 75, 76, 77, 78, 79, 80, 81, 82, 83, 84, 85, 86, 87, 88, 89, 90, 91, 92, 93, 94, 95, 96, 97, 98, 99, 100, 101, 102, 103, 104, 105, 106, 107, 108] (by decide +kernel) (by decide +kernel)
set_option maxRecDepth 20000 in
theorem gX1_litCellsAnew_X1_isShoneOn : GoodIn wsX1_litCellsAnew (wsV RX1 265 RX1 yX1_isShoneOn wsX1_isShoneOn) := goodIn_app (goodIn_of _ (by decide +kernel)) ggX1_litCellsAnew_X1_isShoneOn
theorem dX1_litCellsAnew_0 : decode cX1_litCellsAnew 0 = .ok (.iconst 0, 1) := by decide +kernel
theorem dX1_litCellsAnew_1 : decode cX1_litCellsAnew 1 = .ok (.istore_n 1, 1) := by decide +kernel
theorem dX1_litCellsAnew_2 : decode cX1_litCellsAnew 2 = .ok (.iconst 0, 1) := by decide +kernel
theorem dX1_litCellsAnew_3 : decode cX1_litCellsAnew 3 = .ok (.istore_n 2, 1) := by decide +kernel
theorem dX1_litCellsAnew_4 : decode cX1_litCellsAnew 4 = .ok (.iload_n 2, 1) := by decide +kernel
theorem dX1_litCellsAnew_5 : decode cX1_litCellsAnew 5 = .ok (.sipush 144, 3) := by decide +kernel
theorem dX1_litCellsAnew_8 : decode cX1_litCellsAnew 8 = .ok (.if_icmp .ge 20, 3) := by decide +kernel
theorem dX1_litCellsAnew_11 : decode cX1_litCellsAnew 11 = .ok (.aload_n 0, 1) := by decide +kernel
theorem dX1_litCellsAnew_12 : decode cX1_litCellsAnew 12 = .ok (.iload_n 2, 1) := by decide +kernel
theorem dX1_litCellsAnew_13 : decode cX1_litCellsAnew 13 = .ok (.invokevirtual 265, 3) := by decide +kernel
theorem dX1_litCellsAnew_16 : decode cX1_litCellsAnew 16 = .ok (.ifCond .eq 6, 3) := by decide +kernel
theorem dX1_litCellsAnew_19 : decode cX1_litCellsAnew 19 = .ok (.iinc 1 1, 3) := by decide +kernel
theorem dX1_litCellsAnew_22 : decode cX1_litCellsAnew 22 = .ok (.iinc 2 1, 3) := by decide +kernel
theorem dX1_litCellsAnew_25 : decode cX1_litCellsAnew 25 = .ok (.goto (-21), 3) := by decide +kernel
theorem dX1_litCellsAnew_28 : decode cX1_litCellsAnew 28 = .ok (.iload_n 1, 1) := by decide +kernel
theorem dX1_litCellsAnew_29 : decode cX1_litCellsAnew 29 = .ok (.ireturn, 1) := by decide +kernel
set_option maxRecDepth 20000 in
theorem ggX1_isShoneOn_X1_shinesOn : GoodIn wsX1_isShoneOn wsX1_shinesOn := goodIn_r _ [6, 7, 8, 9, 5, 10, 11, 12, 13, 14, 15, 16, 17, 18, 19, 20, 21, 22, 23, 24, 25, 26, 27, 28, 29, 30, 31, 32, 33, 34, 35, 36, 37, 38, 39, 40, 41, 42, 43, 44, 45, 46, 47, 48, 49, 50, 51, 52, 53, 54, 55, 56, 57, 58, 59, 60, 61, 62, 63, 64, 65, 66, 67, 68, 69, 70, 71, 72, 73, 74, 75, 76, 77, 78, 79, 80, 81, 82, 83, 84, 85, 86, 87, 88, 89, 90, 91, 92, 93, 94, 95, 96, 97, 98, 99, 100, 101, 102, 103, 104] (by decide +kernel) (by decide +kernel)
set_option maxRecDepth 20000 in
theorem gX1_isShoneOn_X1_shinesOn : GoodIn wsX1_isShoneOn (wsV RX1 262 RX1 yX1_shinesOn wsX1_shinesOn) := goodIn_app (goodIn_of _ (by decide +kernel)) ggX1_isShoneOn_X1_shinesOn
theorem dX1_isShoneOn_0 : decode cX1_isShoneOn 0 = .ok (.iconst 0, 1) := by decide +kernel
theorem dX1_isShoneOn_1 : decode cX1_isShoneOn 1 = .ok (.istore_n 2, 1) := by decide +kernel
theorem dX1_isShoneOn_2 : decode cX1_isShoneOn 2 = .ok (.iload_n 2, 1) := by decide +kernel
theorem dX1_isShoneOn_3 : decode cX1_isShoneOn 3 = .ok (.aload_n 0, 1) := by decide +kernel
theorem dX1_isShoneOn_4 : decode cX1_isShoneOn 4 = .ok (.getfield 63, 3) := by decide +kernel
theorem dX1_isShoneOn_7 : decode cX1_isShoneOn 7 = .ok (.if_icmp .ge 20, 3) := by decide +kernel
theorem dX1_isShoneOn_10 : decode cX1_isShoneOn 10 = .ok (.aload_n 0, 1) := by decide +kernel
theorem dX1_isShoneOn_11 : decode cX1_isShoneOn 11 = .ok (.iload_n 2, 1) := by decide +kernel
theorem dX1_isShoneOn_12 : decode cX1_isShoneOn 12 = .ok (.iload_n 1, 1) := by decide +kernel
theorem dX1_isShoneOn_13 : decode cX1_isShoneOn 13 = .ok (.invokevirtual 262, 3) := by decide +kernel
theorem dX1_isShoneOn_16 : decode cX1_isShoneOn 16 = .ok (.ifCond .eq 5, 3) := by decide +kernel
theorem dX1_isShoneOn_19 : decode cX1_isShoneOn 19 = .ok (.iconst 1, 1) := by decide +kernel
theorem dX1_isShoneOn_20 : decode cX1_isShoneOn 20 = .ok (.ireturn, 1) := by decide +kernel
theorem dX1_isShoneOn_21 : decode cX1_isShoneOn 21 = .ok (.iinc 2 1, 3) := by decide +kernel
theorem dX1_isShoneOn_24 : decode cX1_isShoneOn 24 = .ok (.goto (-22), 3) := by decide +kernel
theorem dX1_isShoneOn_27 : decode cX1_isShoneOn 27 = .ok (.iconst 0, 1) := by decide +kernel
theorem dX1_isShoneOn_28 : decode cX1_isShoneOn 28 = .ok (.ireturn, 1) := by decide +kernel
set_option maxRecDepth 20000 in
theorem ggX1_cellsLitBy_X1_lampsOn : GoodIn wsX1_cellsLitBy wsX1_lampsOn := goodIn_r _ [5, 6, 7, 8, 9, 10, 11, 12, 13, 14, 15, 16, 17] (by decide +kernel) (by decide +kernel)
set_option maxRecDepth 20000 in
theorem gX1_cellsLitBy_X1_lampsOn : GoodIn wsX1_cellsLitBy (wsV RX1 126 RX1 yX1_lampsOn wsX1_lampsOn) := goodIn_app (goodIn_of _ (by decide +kernel)) ggX1_cellsLitBy_X1_lampsOn
theorem dX1_cellsLitBy_0 : decode cX1_cellsLitBy 0 = .ok (.iconst 0, 1) := by decide +kernel
theorem dX1_cellsLitBy_1 : decode cX1_cellsLitBy 1 = .ok (.istore_n 2, 1) := by decide +kernel
theorem dX1_cellsLitBy_2 : decode cX1_cellsLitBy 2 = .ok (.iconst 0, 1) := by decide +kernel
theorem dX1_cellsLitBy_3 : decode cX1_cellsLitBy 3 = .ok (.istore_n 3, 1) := by decide +kernel
theorem dX1_cellsLitBy_4 : decode cX1_cellsLitBy 4 = .ok (.iload_n 3, 1) := by decide +kernel
theorem dX1_cellsLitBy_5 : decode cX1_cellsLitBy 5 = .ok (.sipush 144, 3) := by decide +kernel
theorem dX1_cellsLitBy_8 : decode cX1_cellsLitBy 8 = .ok (.if_icmp .ge 24, 3) := by decide +kernel
theorem dX1_cellsLitBy_11 : decode cX1_cellsLitBy 11 = .ok (.aload_n 0, 1) := by decide +kernel
theorem dX1_cellsLitBy_12 : decode cX1_cellsLitBy 12 = .ok (.iload_n 3, 1) := by decide +kernel
theorem dX1_cellsLitBy_13 : decode cX1_cellsLitBy 13 = .ok (.invokevirtual 126, 3) := by decide +kernel
theorem dX1_cellsLitBy_16 : decode cX1_cellsLitBy 16 = .ok (.iconst 1, 1) := by decide +kernel
theorem dX1_cellsLitBy_17 : decode cX1_cellsLitBy 17 = .ok (.iload_n 1, 1) := by decide +kernel
theorem dX1_cellsLitBy_18 : decode cX1_cellsLitBy 18 = .ok (.ishl, 1) := by decide +kernel
theorem dX1_cellsLitBy_19 : decode cX1_cellsLitBy 19 = .ok (.iand, 1) := by decide +kernel
theorem dX1_cellsLitBy_20 : decode cX1_cellsLitBy 20 = .ok (.ifCond .eq 6, 3) := by decide +kernel
theorem dX1_cellsLitBy_23 : decode cX1_cellsLitBy 23 = .ok (.iinc 2 1, 3) := by decide +kernel
theorem dX1_cellsLitBy_26 : decode cX1_cellsLitBy 26 = .ok (.iinc 3 1, 3) := by decide +kernel
theorem dX1_cellsLitBy_29 : decode cX1_cellsLitBy 29 = .ok (.goto (-25), 3) := by decide +kernel
theorem dX1_cellsLitBy_32 : decode cX1_cellsLitBy 32 = .ok (.iload_n 2, 1) := by decide +kernel
theorem dX1_cellsLitBy_33 : decode cX1_cellsLitBy 33 = .ok (.ireturn, 1) := by decide +kernel
set_option maxRecDepth 20000 in
theorem ggX1_cellsLitOnlyBy_X1_lampsOn : GoodIn wsX1_cellsLitOnlyBy wsX1_lampsOn := goodIn_r _ [5, 6, 7, 8, 9, 10, 11, 12, 13, 14, 15, 16, 17] (by decide +kernel) (by decide +kernel)
set_option maxRecDepth 20000 in
theorem gX1_cellsLitOnlyBy_X1_lampsOn : GoodIn wsX1_cellsLitOnlyBy (wsV RX1 126 RX1 yX1_lampsOn wsX1_lampsOn) := goodIn_app (goodIn_of _ (by decide +kernel)) ggX1_cellsLitOnlyBy_X1_lampsOn
theorem dX1_cellsLitOnlyBy_0 : decode cX1_cellsLitOnlyBy 0 = .ok (.iconst 0, 1) := by decide +kernel
theorem dX1_cellsLitOnlyBy_1 : decode cX1_cellsLitOnlyBy 1 = .ok (.istore_n 2, 1) := by decide +kernel
theorem dX1_cellsLitOnlyBy_2 : decode cX1_cellsLitOnlyBy 2 = .ok (.iconst 0, 1) := by decide +kernel
theorem dX1_cellsLitOnlyBy_3 : decode cX1_cellsLitOnlyBy 3 = .ok (.istore_n 3, 1) := by decide +kernel
theorem dX1_cellsLitOnlyBy_4 : decode cX1_cellsLitOnlyBy 4 = .ok (.iload_n 3, 1) := by decide +kernel
theorem dX1_cellsLitOnlyBy_5 : decode cX1_cellsLitOnlyBy 5 = .ok (.sipush 144, 3) := by decide +kernel
theorem dX1_cellsLitOnlyBy_8 : decode cX1_cellsLitOnlyBy 8 = .ok (.if_icmp .ge 23, 3) := by decide +kernel
theorem dX1_cellsLitOnlyBy_11 : decode cX1_cellsLitOnlyBy 11 = .ok (.aload_n 0, 1) := by decide +kernel
theorem dX1_cellsLitOnlyBy_12 : decode cX1_cellsLitOnlyBy 12 = .ok (.iload_n 3, 1) := by decide +kernel
theorem dX1_cellsLitOnlyBy_13 : decode cX1_cellsLitOnlyBy 13 = .ok (.invokevirtual 126, 3) := by decide +kernel
theorem dX1_cellsLitOnlyBy_16 : decode cX1_cellsLitOnlyBy 16 = .ok (.iconst 1, 1) := by decide +kernel
theorem dX1_cellsLitOnlyBy_17 : decode cX1_cellsLitOnlyBy 17 = .ok (.iload_n 1, 1) := by decide +kernel
theorem dX1_cellsLitOnlyBy_18 : decode cX1_cellsLitOnlyBy 18 = .ok (.ishl, 1) := by decide +kernel
theorem dX1_cellsLitOnlyBy_19 : decode cX1_cellsLitOnlyBy 19 = .ok (.if_icmp .ne 6, 3) := by decide +kernel
theorem dX1_cellsLitOnlyBy_22 : decode cX1_cellsLitOnlyBy 22 = .ok (.iinc 2 1, 3) := by decide +kernel
theorem dX1_cellsLitOnlyBy_25 : decode cX1_cellsLitOnlyBy 25 = .ok (.iinc 3 1, 3) := by decide +kernel
theorem dX1_cellsLitOnlyBy_28 : decode cX1_cellsLitOnlyBy 28 = .ok (.goto (-24), 3) := by decide +kernel
theorem dX1_cellsLitOnlyBy_31 : decode cX1_cellsLitOnlyBy 31 = .ok (.iload_n 2, 1) := by decide +kernel
theorem dX1_cellsLitOnlyBy_32 : decode cX1_cellsLitOnlyBy 32 = .ok (.ireturn, 1) := by decide +kernel
set_option maxRecDepth 20000 in
theorem ggX1_brightness_X1_lampsOn : GoodIn wsX1_brightness wsX1_lampsOn := goodIn_r _ [13, 14, 31, 32, 33, 34, 35, 36, 37, 38, 39, 40, 41] (by decide +kernel) (by decide +kernel)
set_option maxRecDepth 20000 in
theorem gX1_brightness_X1_lampsOn : GoodIn wsX1_brightness (wsV RX1 126 RX1 yX1_lampsOn wsX1_lampsOn) := goodIn_app (goodIn_of _ (by decide +kernel)) ggX1_brightness_X1_lampsOn
set_option maxRecDepth 20000 in
theorem ggX1_brightness_X1_cellOfLamp : GoodIn wsX1_brightness wsX1_cellOfLamp := goodIn_r _ [18, 19, 31, 32, 33, 34, 35, 36, 37, 38, 39, 40, 41] (by decide +kernel) (by decide +kernel)
set_option maxRecDepth 20000 in
theorem gX1_brightness_X1_cellOfLamp : GoodIn wsX1_brightness (wsV RX1 140 RX1 yX1_cellOfLamp wsX1_cellOfLamp) := goodIn_app (goodIn_of _ (by decide +kernel)) ggX1_brightness_X1_cellOfLamp
set_option maxRecDepth 20000 in
theorem ggX1_brightness_X1_columnOf : GoodIn wsX1_brightness wsX1_columnOf := goodIn_r _ [22] (by decide +kernel) (by decide +kernel)
set_option maxRecDepth 20000 in
theorem gX1_brightness_X1_columnOf : GoodIn wsX1_brightness (va_wsS RX1 244 yX1_columnOf wsX1_columnOf) := goodIn_app (goodIn_of _ (by decide +kernel)) ggX1_brightness_X1_columnOf
set_option maxRecDepth 20000 in
theorem ggX1_brightness_X1_rowOf : GoodIn wsX1_brightness wsX1_rowOf := goodIn_r _ [25] (by decide +kernel) (by decide +kernel)
set_option maxRecDepth 20000 in
theorem gX1_brightness_X1_rowOf : GoodIn wsX1_brightness (va_wsS RX1 241 yX1_rowOf wsX1_rowOf) := goodIn_app (goodIn_of _ (by decide +kernel)) ggX1_brightness_X1_rowOf
set_option maxRecDepth 20000 in
theorem ggX1_brightness_X1_reachOf : GoodIn wsX1_brightness wsX1_reachOf := goodIn_r _ [29, 30, 31, 32, 33, 34, 35, 36, 37, 38, 39, 40, 41] (by decide +kernel) (by decide +kernel)
set_option maxRecDepth 20000 in
theorem gX1_brightness_X1_reachOf : GoodIn wsX1_brightness (wsV RX1 93 RX1 yX1_reachOf wsX1_reachOf) := goodIn_app (goodIn_of _ (by decide +kernel)) ggX1_brightness_X1_reachOf
theorem dX1_brightness_0 : decode cX1_brightness 0 = .ok (.iconst 0, 1) := by decide +kernel
theorem dX1_brightness_1 : decode cX1_brightness 1 = .ok (.istore_n 2, 1) := by decide +kernel
theorem dX1_brightness_2 : decode cX1_brightness 2 = .ok (.iconst 0, 1) := by decide +kernel
theorem dX1_brightness_3 : decode cX1_brightness 3 = .ok (.istore_n 3, 1) := by decide +kernel
theorem dX1_brightness_4 : decode cX1_brightness 4 = .ok (.iload_n 3, 1) := by decide +kernel
theorem dX1_brightness_5 : decode cX1_brightness 5 = .ok (.aload_n 0, 1) := by decide +kernel
theorem dX1_brightness_6 : decode cX1_brightness 6 = .ok (.getfield 63, 3) := by decide +kernel
theorem dX1_brightness_9 : decode cX1_brightness 9 = .ok (.if_icmp .ge 74, 3) := by decide +kernel
theorem dX1_brightness_12 : decode cX1_brightness 12 = .ok (.aload_n 0, 1) := by decide +kernel
theorem dX1_brightness_13 : decode cX1_brightness 13 = .ok (.iload_n 1, 1) := by decide +kernel
theorem dX1_brightness_14 : decode cX1_brightness 14 = .ok (.invokevirtual 126, 3) := by decide +kernel
theorem dX1_brightness_17 : decode cX1_brightness 17 = .ok (.iconst 1, 1) := by decide +kernel
theorem dX1_brightness_18 : decode cX1_brightness 18 = .ok (.iload_n 3, 1) := by decide +kernel
theorem dX1_brightness_19 : decode cX1_brightness 19 = .ok (.ishl, 1) := by decide +kernel
theorem dX1_brightness_20 : decode cX1_brightness 20 = .ok (.iand, 1) := by decide +kernel
theorem dX1_brightness_21 : decode cX1_brightness 21 = .ok (.ifCond .eq 56, 3) := by decide +kernel
theorem dX1_brightness_24 : decode cX1_brightness 24 = .ok (.aload_n 0, 1) := by decide +kernel
theorem dX1_brightness_25 : decode cX1_brightness 25 = .ok (.iload_n 3, 1) := by decide +kernel
theorem dX1_brightness_26 : decode cX1_brightness 26 = .ok (.invokevirtual 140, 3) := by decide +kernel
theorem dX1_brightness_29 : decode cX1_brightness 29 = .ok (.istore 4, 2) := by decide +kernel
theorem dX1_brightness_31 : decode cX1_brightness 31 = .ok (.iload_n 1, 1) := by decide +kernel
theorem dX1_brightness_32 : decode cX1_brightness 32 = .ok (.invokestatic 244, 3) := by decide +kernel
theorem dX1_brightness_35 : decode cX1_brightness 35 = .ok (.iload 4, 2) := by decide +kernel
theorem dX1_brightness_37 : decode cX1_brightness 37 = .ok (.invokestatic 244, 3) := by decide +kernel
theorem dX1_brightness_40 : decode cX1_brightness 40 = .ok (.isub, 1) := by decide +kernel
theorem dX1_brightness_41 : decode cX1_brightness 41 = .ok (.invokestatic 268, 3) := by decide +kernel
theorem dX1_brightness_44 : decode cX1_brightness 44 = .ok (.istore 5, 2) := by decide +kernel
theorem dX1_brightness_46 : decode cX1_brightness 46 = .ok (.iload_n 1, 1) := by decide +kernel
theorem dX1_brightness_47 : decode cX1_brightness 47 = .ok (.invokestatic 241, 3) := by decide +kernel
theorem dX1_brightness_50 : decode cX1_brightness 50 = .ok (.iload 4, 2) := by decide +kernel
theorem dX1_brightness_52 : decode cX1_brightness 52 = .ok (.invokestatic 241, 3) := by decide +kernel
theorem dX1_brightness_55 : decode cX1_brightness 55 = .ok (.isub, 1) := by decide +kernel
theorem dX1_brightness_56 : decode cX1_brightness 56 = .ok (.invokestatic 268, 3) := by decide +kernel
theorem dX1_brightness_59 : decode cX1_brightness 59 = .ok (.istore 6, 2) := by decide +kernel
theorem dX1_brightness_61 : decode cX1_brightness 61 = .ok (.iload_n 2, 1) := by decide +kernel
theorem dX1_brightness_62 : decode cX1_brightness 62 = .ok (.aload_n 0, 1) := by decide +kernel
theorem dX1_brightness_63 : decode cX1_brightness 63 = .ok (.iload_n 3, 1) := by decide +kernel
theorem dX1_brightness_64 : decode cX1_brightness 64 = .ok (.invokevirtual 93, 3) := by decide +kernel
theorem dX1_brightness_67 : decode cX1_brightness 67 = .ok (.iload 5, 2) := by decide +kernel
theorem dX1_brightness_69 : decode cX1_brightness 69 = .ok (.iload 6, 2) := by decide +kernel
theorem dX1_brightness_71 : decode cX1_brightness 71 = .ok (.invokestatic 273, 3) := by decide +kernel
theorem dX1_brightness_74 : decode cX1_brightness 74 = .ok (.isub, 1) := by decide +kernel
theorem dX1_brightness_75 : decode cX1_brightness 75 = .ok (.iadd, 1) := by decide +kernel
theorem dX1_brightness_76 : decode cX1_brightness 76 = .ok (.istore_n 2, 1) := by decide +kernel
theorem dX1_brightness_77 : decode cX1_brightness 77 = .ok (.iinc 3 1, 3) := by decide +kernel
theorem dX1_brightness_80 : decode cX1_brightness 80 = .ok (.goto (-76), 3) := by decide +kernel
theorem dX1_brightness_83 : decode cX1_brightness 83 = .ok (.iload_n 2, 1) := by decide +kernel
theorem dX1_brightness_84 : decode cX1_brightness 84 = .ok (.ireturn, 1) := by decide +kernel
set_option maxRecDepth 20000 in
theorem ggX1_brightnessOfAll_X1_brightness : GoodIn wsX1_brightnessOfAll wsX1_brightness := goodIn_r _ [5, 6, 7, 8, 9, 10, 11, 12, 13, 14, 15, 16, 4, 17, 18, 19, 20, 21, 22, 23, 24, 25, 26, 27, 28, 29, 30, 31, 32, 33, 34, 35, 36, 37, 38, 39, 40, 41, 42, 43, 44, 45] (by decide +kernel) (by decide +kernel)
set_option maxRecDepth 20000 in
theorem gX1_brightnessOfAll_X1_brightness : GoodIn wsX1_brightnessOfAll (wsV RX1 123 RX1 yX1_brightness wsX1_brightness) := goodIn_app (goodIn_of _ (by decide +kernel)) ggX1_brightnessOfAll_X1_brightness
theorem dX1_brightnessOfAll_0 : decode cX1_brightnessOfAll 0 = .ok (.iconst 0, 1) := by decide +kernel
theorem dX1_brightnessOfAll_1 : decode cX1_brightnessOfAll 1 = .ok (.istore_n 1, 1) := by decide +kernel
theorem dX1_brightnessOfAll_2 : decode cX1_brightnessOfAll 2 = .ok (.iconst 0, 1) := by decide +kernel
theorem dX1_brightnessOfAll_3 : decode cX1_brightnessOfAll 3 = .ok (.istore_n 2, 1) := by decide +kernel
theorem dX1_brightnessOfAll_4 : decode cX1_brightnessOfAll 4 = .ok (.iload_n 2, 1) := by decide +kernel
theorem dX1_brightnessOfAll_5 : decode cX1_brightnessOfAll 5 = .ok (.sipush 144, 3) := by decide +kernel
theorem dX1_brightnessOfAll_8 : decode cX1_brightnessOfAll 8 = .ok (.if_icmp .ge 17, 3) := by decide +kernel
theorem dX1_brightnessOfAll_11 : decode cX1_brightnessOfAll 11 = .ok (.iload_n 1, 1) := by decide +kernel
theorem dX1_brightnessOfAll_12 : decode cX1_brightnessOfAll 12 = .ok (.aload_n 0, 1) := by decide +kernel
theorem dX1_brightnessOfAll_13 : decode cX1_brightnessOfAll 13 = .ok (.iload_n 2, 1) := by decide +kernel
theorem dX1_brightnessOfAll_14 : decode cX1_brightnessOfAll 14 = .ok (.invokevirtual 123, 3) := by decide +kernel
theorem dX1_brightnessOfAll_17 : decode cX1_brightnessOfAll 17 = .ok (.iadd, 1) := by decide +kernel
theorem dX1_brightnessOfAll_18 : decode cX1_brightnessOfAll 18 = .ok (.istore_n 1, 1) := by decide +kernel
theorem dX1_brightnessOfAll_19 : decode cX1_brightnessOfAll 19 = .ok (.iinc 2 1, 3) := by decide +kernel
theorem dX1_brightnessOfAll_22 : decode cX1_brightnessOfAll 22 = .ok (.goto (-18), 3) := by decide +kernel
theorem dX1_brightnessOfAll_25 : decode cX1_brightnessOfAll 25 = .ok (.iload_n 1, 1) := by decide +kernel
theorem dX1_brightnessOfAll_26 : decode cX1_brightnessOfAll 26 = .ok (.ireturn, 1) := by decide +kernel
set_option maxRecDepth 20000 in
theorem ggX1_isDarkerThan_X1_isLit : GoodIn wsX1_isDarkerThan wsX1_isLit := goodIn_r _ [5, 6, 7, 8, 4, 9, 10, 39, 40, 41, 42, 43, 44, 45, 46, 47, 48, 49] (by decide +kernel) (by decide +kernel)
set_option maxRecDepth 20000 in
theorem gX1_isDarkerThan_X1_isLit : GoodIn wsX1_isDarkerThan (wsV RX1 158 RX1 yX1_isLit wsX1_isLit) := goodIn_app (goodIn_of _ (by decide +kernel)) ggX1_isDarkerThan_X1_isLit
set_option maxRecDepth 20000 in
theorem ggX1_isDarkerThan_X1_brightness : GoodIn wsX1_isDarkerThan wsX1_brightness := goodIn_r _ [14, 15, 16, 17, 18, 19, 20, 21, 22, 6, 7, 8, 4, 9, 10, 23, 24, 25, 26, 27, 28, 29, 30, 31, 32, 33, 34, 35, 36, 37, 38, 39, 40, 41, 42, 43, 44, 45, 46, 47, 48, 49] (by decide +kernel) (by decide +kernel)
set_option maxRecDepth 20000 in
theorem gX1_isDarkerThan_X1_brightness : GoodIn wsX1_isDarkerThan (wsV RX1 123 RX1 yX1_brightness wsX1_brightness) := goodIn_app (goodIn_of _ (by decide +kernel)) ggX1_isDarkerThan_X1_brightness
theorem dX1_isDarkerThan_0 : decode cX1_isDarkerThan 0 = .ok (.aload_n 0, 1) := by decide +kernel
theorem dX1_isDarkerThan_1 : decode cX1_isDarkerThan 1 = .ok (.iload_n 1, 1) := by decide +kernel
theorem dX1_isDarkerThan_2 : decode cX1_isDarkerThan 2 = .ok (.invokevirtual 158, 3) := by decide +kernel
theorem dX1_isDarkerThan_5 : decode cX1_isDarkerThan 5 = .ok (.aload_n 0, 1) := by decide +kernel
theorem dX1_isDarkerThan_6 : decode cX1_isDarkerThan 6 = .ok (.iload_n 2, 1) := by decide +kernel
theorem dX1_isDarkerThan_7 : decode cX1_isDarkerThan 7 = .ok (.invokevirtual 158, 3) := by decide +kernel
theorem dX1_isDarkerThan_10 : decode cX1_isDarkerThan 10 = .ok (.if_icmp .eq 9, 3) := by decide +kernel
theorem dX1_isDarkerThan_13 : decode cX1_isDarkerThan 13 = .ok (.aload_n 0, 1) := by decide +kernel
theorem dX1_isDarkerThan_14 : decode cX1_isDarkerThan 14 = .ok (.iload_n 2, 1) := by decide +kernel
theorem dX1_isDarkerThan_15 : decode cX1_isDarkerThan 15 = .ok (.invokevirtual 158, 3) := by decide +kernel
theorem dX1_isDarkerThan_18 : decode cX1_isDarkerThan 18 = .ok (.ireturn, 1) := by decide +kernel
theorem dX1_isDarkerThan_19 : decode cX1_isDarkerThan 19 = .ok (.aload_n 0, 1) := by decide +kernel
theorem dX1_isDarkerThan_20 : decode cX1_isDarkerThan 20 = .ok (.iload_n 1, 1) := by decide +kernel
theorem dX1_isDarkerThan_21 : decode cX1_isDarkerThan 21 = .ok (.invokevirtual 123, 3) := by decide +kernel
theorem dX1_isDarkerThan_24 : decode cX1_isDarkerThan 24 = .ok (.aload_n 0, 1) := by decide +kernel
theorem dX1_isDarkerThan_25 : decode cX1_isDarkerThan 25 = .ok (.iload_n 2, 1) := by decide +kernel
theorem dX1_isDarkerThan_26 : decode cX1_isDarkerThan 26 = .ok (.invokevirtual 123, 3) := by decide +kernel
theorem dX1_isDarkerThan_29 : decode cX1_isDarkerThan 29 = .ok (.if_icmp .ge 7, 3) := by decide +kernel
theorem dX1_isDarkerThan_32 : decode cX1_isDarkerThan 32 = .ok (.iconst 1, 1) := by decide +kernel
theorem dX1_isDarkerThan_33 : decode cX1_isDarkerThan 33 = .ok (.goto 4, 3) := by decide +kernel
theorem dX1_isDarkerThan_36 : decode cX1_isDarkerThan 36 = .ok (.iconst 0, 1) := by decide +kernel
theorem dX1_isDarkerThan_37 : decode cX1_isDarkerThan 37 = .ok (.ireturn, 1) := by decide +kernel
set_option maxRecDepth 20000 in
theorem ggX1_edgesOfLight_X1_neighbour : GoodIn wsX1_edgesOfLight wsX1_neighbour := goodIn_r _ [4, 5, 6, 3, 7, 8, 9, 10] (by decide +kernel) (by decide +kernel)
set_option maxRecDepth 20000 in
theorem gX1_edgesOfLight_X1_neighbour : GoodIn wsX1_edgesOfLight (va_wsS RX1 199 yX1_neighbour wsX1_neighbour) := goodIn_app (goodIn_of _ (by decide +kernel)) ggX1_edgesOfLight_X1_neighbour
set_option maxRecDepth 20000 in
theorem ggX1_edgesOfLight_X1_isLit : GoodIn wsX1_edgesOfLight wsX1_isLit := goodIn_r _ [14, 15, 16, 17, 3, 18, 19, 20, 21, 22, 23, 24, 25, 26, 27, 28, 29, 30] (by decide +kernel) (by decide +kernel)
set_option maxRecDepth 20000 in
theorem gX1_edgesOfLight_X1_isLit : GoodIn wsX1_edgesOfLight (wsV RX1 158 RX1 yX1_isLit wsX1_isLit) := goodIn_app (goodIn_of _ (by decide +kernel)) ggX1_edgesOfLight_X1_isLit
theorem dX1_edgesOfLight_0 : decode cX1_edgesOfLight 0 = .ok (.iconst 0, 1) := by decide +kernel
theorem dX1_edgesOfLight_1 : decode cX1_edgesOfLight 1 = .ok (.istore_n 1, 1) := by decide +kernel
theorem dX1_edgesOfLight_2 : decode cX1_edgesOfLight 2 = .ok (.iconst 0, 1) := by decide +kernel
theorem dX1_edgesOfLight_3 : decode cX1_edgesOfLight 3 = .ok (.istore_n 2, 1) := by decide +kernel
theorem dX1_edgesOfLight_4 : decode cX1_edgesOfLight 4 = .ok (.iload_n 2, 1) := by decide +kernel
theorem dX1_edgesOfLight_5 : decode cX1_edgesOfLight 5 = .ok (.sipush 144, 3) := by decide +kernel
theorem dX1_edgesOfLight_8 : decode cX1_edgesOfLight 8 = .ok (.if_icmp .ge 52, 3) := by decide +kernel
theorem dX1_edgesOfLight_11 : decode cX1_edgesOfLight 11 = .ok (.iconst 2, 1) := by decide +kernel
theorem dX1_edgesOfLight_12 : decode cX1_edgesOfLight 12 = .ok (.istore_n 3, 1) := by decide +kernel
theorem dX1_edgesOfLight_13 : decode cX1_edgesOfLight 13 = .ok (.iload_n 3, 1) := by decide +kernel
theorem dX1_edgesOfLight_14 : decode cX1_edgesOfLight 14 = .ok (.iconst 3, 1) := by decide +kernel
theorem dX1_edgesOfLight_15 : decode cX1_edgesOfLight 15 = .ok (.if_icmp .gt 39, 3) := by decide +kernel
theorem dX1_edgesOfLight_18 : decode cX1_edgesOfLight 18 = .ok (.iload_n 2, 1) := by decide +kernel
theorem dX1_edgesOfLight_19 : decode cX1_edgesOfLight 19 = .ok (.iload_n 3, 1) := by decide +kernel
theorem dX1_edgesOfLight_20 : decode cX1_edgesOfLight 20 = .ok (.invokestatic 199, 3) := by decide +kernel
theorem dX1_edgesOfLight_23 : decode cX1_edgesOfLight 23 = .ok (.istore 4, 2) := by decide +kernel
theorem dX1_edgesOfLight_25 : decode cX1_edgesOfLight 25 = .ok (.iload 4, 2) := by decide +kernel
theorem dX1_edgesOfLight_27 : decode cX1_edgesOfLight 27 = .ok (.iconst (-1), 1) := by decide +kernel
theorem dX1_edgesOfLight_28 : decode cX1_edgesOfLight 28 = .ok (.if_icmp .eq 20, 3) := by decide +kernel
theorem dX1_edgesOfLight_31 : decode cX1_edgesOfLight 31 = .ok (.aload_n 0, 1) := by decide +kernel
theorem dX1_edgesOfLight_32 : decode cX1_edgesOfLight 32 = .ok (.iload_n 2, 1) := by decide +kernel
theorem dX1_edgesOfLight_33 : decode cX1_edgesOfLight 33 = .ok (.invokevirtual 158, 3) := by decide +kernel
theorem dX1_edgesOfLight_36 : decode cX1_edgesOfLight 36 = .ok (.aload_n 0, 1) := by decide +kernel
theorem dX1_edgesOfLight_37 : decode cX1_edgesOfLight 37 = .ok (.iload 4, 2) := by decide +kernel
theorem dX1_edgesOfLight_39 : decode cX1_edgesOfLight 39 = .ok (.invokevirtual 158, 3) := by decide +kernel
theorem dX1_edgesOfLight_42 : decode cX1_edgesOfLight 42 = .ok (.if_icmp .eq 6, 3) := by decide +kernel
theorem dX1_edgesOfLight_45 : decode cX1_edgesOfLight 45 = .ok (.iinc 1 1, 3) := by decide +kernel
theorem dX1_edgesOfLight_48 : decode cX1_edgesOfLight 48 = .ok (.iinc 3 1, 3) := by decide +kernel
theorem dX1_edgesOfLight_51 : decode cX1_edgesOfLight 51 = .ok (.goto (-38), 3) := by decide +kernel
theorem dX1_edgesOfLight_54 : decode cX1_edgesOfLight 54 = .ok (.iinc 2 1, 3) := by decide +kernel
theorem dX1_edgesOfLight_57 : decode cX1_edgesOfLight 57 = .ok (.goto (-53), 3) := by decide +kernel
theorem dX1_edgesOfLight_60 : decode cX1_edgesOfLight 60 = .ok (.iload_n 1, 1) := by decide +kernel
theorem dX1_edgesOfLight_61 : decode cX1_edgesOfLight 61 = .ok (.ireturn, 1) := by decide +kernel
set_option maxRecDepth 20000 in
theorem ggX1_litIfCarried_X1_cellOfLamp : GoodIn wsX1_litIfCarried wsX1_cellOfLamp := goodIn_r _ [5, 6, 93, 94, 95, 96, 97, 98, 99, 100, 101, 102, 103] (by decide +kernel) (by decide +kernel)
set_option maxRecDepth 20000 in
theorem gX1_litIfCarried_X1_cellOfLamp : GoodIn wsX1_litIfCarried (wsV RX1 140 RX1 yX1_cellOfLamp wsX1_cellOfLamp) := goodIn_app (goodIn_of _ (by decide +kernel)) ggX1_litIfCarried_X1_cellOfLamp
set_option maxRecDepth 20000 in
theorem ggX1_litIfCarried_X1_putLamp : GoodIn wsX1_litIfCarried wsX1_putLamp := goodIn_r _ [10, 6, 93, 94, 95, 96, 97, 98, 99, 100, 101, 102, 103] (by decide +kernel) (by decide +kernel)
set_option maxRecDepth 20000 in
theorem gX1_litIfCarried_X1_putLamp : GoodIn wsX1_litIfCarried (wsV RX1 86 RX1 yX1_putLamp wsX1_putLamp) := goodIn_app (goodIn_of _ (by decide +kernel)) ggX1_litIfCarried_X1_putLamp
set_option maxRecDepth 20000 in
theorem ggX1_litIfCarried_X1_lampsOn : GoodIn wsX1_litIfCarried wsX1_lampsOn := goodIn_r _ [14, 15, 93, 94, 95, 96, 97, 98, 99, 100, 101, 102, 103] (by decide +kernel) (by decide +kernel)
set_option maxRecDepth 20000 in
theorem gX1_litIfCarried_X1_lampsOn : GoodIn wsX1_litIfCarried (wsV RX1 126 RX1 yX1_lampsOn wsX1_lampsOn) := goodIn_app (goodIn_of _ (by decide +kernel)) ggX1_litIfCarried_X1_lampsOn
set_option maxRecDepth 20000 in
theorem ggX1_litIfCarried_X1_shinesOn : GoodIn wsX1_litIfCarried wsX1_shinesOn := goodIn_r _ [19, 1, 2, 3, 4, 5, 6, 20, 21, 22, 23, 24, 25, 26, 27, 28, 29, 30, 31, 32, 33, 34, 35, 36, 37, 38, 39, 40, 41, 42, 43, 44, 45, 46, 47, 48, 49, 50, 51, 52, 53, 54, 55, 56, 57, 58, 59, 60, 61, 62, 63, 64, 65, 66, 67, 68, 69, 70, 71, 72, 73, 74, 75, 76, 77, 78, 79, 80, 81, 82, 83, 84, 85, 86, 87, 88, 89, 90, 91, 92, 93, 94, 95, 96, 97, 98, 99, 100, 101, 102, 103, 104, 105, 106, 107, 108, 109, 110, 111, 112] (by decide +kernel) (by decide +kernel)
set_option maxRecDepth 20000 in
theorem gX1_litIfCarried_X1_shinesOn : GoodIn wsX1_litIfCarried (wsV RX1 262 RX1 yX1_shinesOn wsX1_shinesOn) := goodIn_app (goodIn_of _ (by decide +kernel)) ggX1_litIfCarried_X1_shinesOn
theorem dX1_litIfCarried_0 : decode cX1_litIfCarried 0 = .ok (.aload_n 0, 1) := by decide +kernel
theorem dX1_litIfCarried_1 : decode cX1_litIfCarried 1 = .ok (.iload_n 1, 1) := by decide +kernel
theorem dX1_litIfCarried_2 : decode cX1_litIfCarried 2 = .ok (.invokevirtual 140, 3) := by decide +kernel
theorem dX1_litIfCarried_5 : decode cX1_litIfCarried 5 = .ok (.istore_n 3, 1) := by decide +kernel
theorem dX1_litIfCarried_6 : decode cX1_litIfCarried 6 = .ok (.iconst 0, 1) := by decide +kernel
theorem dX1_litIfCarried_7 : decode cX1_litIfCarried 7 = .ok (.istore 4, 2) := by decide +kernel
theorem dX1_litIfCarried_9 : decode cX1_litIfCarried 9 = .ok (.aload_n 0, 1) := by decide +kernel
theorem dX1_litIfCarried_10 : decode cX1_litIfCarried 10 = .ok (.iload_n 1, 1) := by decide +kernel
theorem dX1_litIfCarried_11 : decode cX1_litIfCarried 11 = .ok (.iload_n 2, 1) := by decide +kernel
theorem dX1_litIfCarried_12 : decode cX1_litIfCarried 12 = .ok (.invokevirtual 86, 3) := by decide +kernel
theorem dX1_litIfCarried_15 : decode cX1_litIfCarried 15 = .ok (.iconst 0, 1) := by decide +kernel
theorem dX1_litIfCarried_16 : decode cX1_litIfCarried 16 = .ok (.istore 5, 2) := by decide +kernel
theorem dX1_litIfCarried_18 : decode cX1_litIfCarried 18 = .ok (.iload 5, 2) := by decide +kernel
theorem dX1_litIfCarried_20 : decode cX1_litIfCarried 20 = .ok (.sipush 144, 3) := by decide +kernel
theorem dX1_litIfCarried_23 : decode cX1_litIfCarried 23 = .ok (.if_icmp .ge 37, 3) := by decide +kernel
theorem dX1_litIfCarried_26 : decode cX1_litIfCarried 26 = .ok (.aload_n 0, 1) := by decide +kernel
theorem dX1_litIfCarried_27 : decode cX1_litIfCarried 27 = .ok (.iload 5, 2) := by decide +kernel
theorem dX1_litIfCarried_29 : decode cX1_litIfCarried 29 = .ok (.invokevirtual 126, 3) := by decide +kernel
theorem dX1_litIfCarried_32 : decode cX1_litIfCarried 32 = .ok (.iconst 1, 1) := by decide +kernel
theorem dX1_litIfCarried_33 : decode cX1_litIfCarried 33 = .ok (.iload_n 1, 1) := by decide +kernel
theorem dX1_litIfCarried_34 : decode cX1_litIfCarried 34 = .ok (.ishl, 1) := by decide +kernel
theorem dX1_litIfCarried_35 : decode cX1_litIfCarried 35 = .ok (.iconst (-1), 1) := by decide +kernel
theorem dX1_litIfCarried_36 : decode cX1_litIfCarried 36 = .ok (.ixor, 1) := by decide +kernel
theorem dX1_litIfCarried_37 : decode cX1_litIfCarried 37 = .ok (.iand, 1) := by decide +kernel
theorem dX1_litIfCarried_38 : decode cX1_litIfCarried 38 = .ok (.ifCond .ne 13, 3) := by decide +kernel
theorem dX1_litIfCarried_41 : decode cX1_litIfCarried 41 = .ok (.aload_n 0, 1) := by decide +kernel
theorem dX1_litIfCarried_42 : decode cX1_litIfCarried 42 = .ok (.iload_n 1, 1) := by decide +kernel
theorem dX1_litIfCarried_43 : decode cX1_litIfCarried 43 = .ok (.iload 5, 2) := by decide +kernel
theorem dX1_litIfCarried_45 : decode cX1_litIfCarried 45 = .ok (.invokevirtual 262, 3) := by decide +kernel
theorem dX1_litIfCarried_48 : decode cX1_litIfCarried 48 = .ok (.ifCond .eq 6, 3) := by decide +kernel
theorem dX1_litIfCarried_51 : decode cX1_litIfCarried 51 = .ok (.iinc 4 1, 3) := by decide +kernel
theorem dX1_litIfCarried_54 : decode cX1_litIfCarried 54 = .ok (.iinc 5 1, 3) := by decide +kernel
theorem dX1_litIfCarried_57 : decode cX1_litIfCarried 57 = .ok (.goto (-39), 3) := by decide +kernel
theorem dX1_litIfCarried_60 : decode cX1_litIfCarried 60 = .ok (.aload_n 0, 1) := by decide +kernel
theorem dX1_litIfCarried_61 : decode cX1_litIfCarried 61 = .ok (.iload_n 1, 1) := by decide +kernel
theorem dX1_litIfCarried_62 : decode cX1_litIfCarried 62 = .ok (.iload_n 3, 1) := by decide +kernel
theorem dX1_litIfCarried_63 : decode cX1_litIfCarried 63 = .ok (.invokevirtual 86, 3) := by decide +kernel
theorem dX1_litIfCarried_66 : decode cX1_litIfCarried 66 = .ok (.iload 4, 2) := by decide +kernel
theorem dX1_litIfCarried_68 : decode cX1_litIfCarried 68 = .ok (.ireturn, 1) := by decide +kernel
theorem dX1_cellOfWatcher_0 : decode cX1_cellOfWatcher 0 = .ok (.iload_n 1, 1) := by decide +kernel
theorem dX1_cellOfWatcher_1 : decode cX1_cellOfWatcher 1 = .ok (.ifCond .lt 21, 3) := by decide +kernel
theorem dX1_cellOfWatcher_4 : decode cX1_cellOfWatcher 4 = .ok (.iload_n 1, 1) := by decide +kernel
theorem dX1_cellOfWatcher_5 : decode cX1_cellOfWatcher 5 = .ok (.aload_n 0, 1) := by decide +kernel
theorem dX1_cellOfWatcher_6 : decode cX1_cellOfWatcher 6 = .ok (.getfield 19, 3) := by decide +kernel
theorem dX1_cellOfWatcher_9 : decode cX1_cellOfWatcher 9 = .ok (.arraylength, 1) := by decide +kernel
theorem dX1_cellOfWatcher_10 : decode cX1_cellOfWatcher 10 = .ok (.if_icmp .ge 12, 3) := by decide +kernel
theorem dX1_cellOfWatcher_13 : decode cX1_cellOfWatcher 13 = .ok (.aload_n 0, 1) := by decide +kernel
theorem dX1_cellOfWatcher_14 : decode cX1_cellOfWatcher 14 = .ok (.getfield 19, 3) := by decide +kernel
theorem dX1_cellOfWatcher_17 : decode cX1_cellOfWatcher 17 = .ok (.iload_n 1, 1) := by decide +kernel
theorem dX1_cellOfWatcher_18 : decode cX1_cellOfWatcher 18 = .ok (.iaload, 1) := by decide +kernel
theorem dX1_cellOfWatcher_19 : decode cX1_cellOfWatcher 19 = .ok (.goto 4, 3) := by decide +kernel
theorem dX1_cellOfWatcher_22 : decode cX1_cellOfWatcher 22 = .ok (.iconst (-1), 1) := by decide +kernel
theorem dX1_cellOfWatcher_23 : decode cX1_cellOfWatcher 23 = .ok (.ireturn, 1) := by decide +kernel
theorem dX1_putWatcher_0 : decode cX1_putWatcher 0 = .ok (.iload_n 1, 1) := by decide +kernel
theorem dX1_putWatcher_1 : decode cX1_putWatcher 1 = .ok (.ifCond .lt 19, 3) := by decide +kernel
theorem dX1_putWatcher_4 : decode cX1_putWatcher 4 = .ok (.iload_n 1, 1) := by decide +kernel
theorem dX1_putWatcher_5 : decode cX1_putWatcher 5 = .ok (.aload_n 0, 1) := by decide +kernel
theorem dX1_putWatcher_6 : decode cX1_putWatcher 6 = .ok (.getfield 19, 3) := by decide +kernel
theorem dX1_putWatcher_9 : decode cX1_putWatcher 9 = .ok (.arraylength, 1) := by decide +kernel
theorem dX1_putWatcher_10 : decode cX1_putWatcher 10 = .ok (.if_icmp .ge 10, 3) := by decide +kernel
theorem dX1_putWatcher_13 : decode cX1_putWatcher 13 = .ok (.aload_n 0, 1) := by decide +kernel
theorem dX1_putWatcher_14 : decode cX1_putWatcher 14 = .ok (.getfield 19, 3) := by decide +kernel
theorem dX1_putWatcher_17 : decode cX1_putWatcher 17 = .ok (.iload_n 1, 1) := by decide +kernel
theorem dX1_putWatcher_18 : decode cX1_putWatcher 18 = .ok (.iload_n 2, 1) := by decide +kernel
theorem dX1_putWatcher_19 : decode cX1_putWatcher 19 = .ok (.iastore, 1) := by decide +kernel
theorem dX1_putWatcher_20 : decode cX1_putWatcher 20 = .ok (.return_, 1) := by decide +kernel
set_option maxRecDepth 20000 in
theorem ggX1_watchersAt_X1_cellOfWatcher : GoodIn wsX1_watchersAt wsX1_cellOfWatcher := goodIn_r _ [6, 7, 8, 9, 10, 11, 12, 13, 14, 15, 16, 17, 18] (by decide +kernel) (by decide +kernel)
set_option maxRecDepth 20000 in
theorem gX1_watchersAt_X1_cellOfWatcher : GoodIn wsX1_watchersAt (wsV RX1 149 RX1 yX1_cellOfWatcher wsX1_cellOfWatcher) := goodIn_app (goodIn_of _ (by decide +kernel)) ggX1_watchersAt_X1_cellOfWatcher
theorem dX1_watchersAt_0 : decode cX1_watchersAt 0 = .ok (.iconst 0, 1) := by decide +kernel
theorem dX1_watchersAt_1 : decode cX1_watchersAt 1 = .ok (.istore_n 2, 1) := by decide +kernel
theorem dX1_watchersAt_2 : decode cX1_watchersAt 2 = .ok (.iconst 0, 1) := by decide +kernel
theorem dX1_watchersAt_3 : decode cX1_watchersAt 3 = .ok (.istore_n 3, 1) := by decide +kernel
theorem dX1_watchersAt_4 : decode cX1_watchersAt 4 = .ok (.iload_n 3, 1) := by decide +kernel
theorem dX1_watchersAt_5 : decode cX1_watchersAt 5 = .ok (.aload_n 0, 1) := by decide +kernel
theorem dX1_watchersAt_6 : decode cX1_watchersAt 6 = .ok (.getfield 99, 3) := by decide +kernel
theorem dX1_watchersAt_9 : decode cX1_watchersAt 9 = .ok (.if_icmp .ge 21, 3) := by decide +kernel
theorem dX1_watchersAt_12 : decode cX1_watchersAt 12 = .ok (.aload_n 0, 1) := by decide +kernel
theorem dX1_watchersAt_13 : decode cX1_watchersAt 13 = .ok (.iload_n 3, 1) := by decide +kernel
theorem dX1_watchersAt_14 : decode cX1_watchersAt 14 = .ok (.invokevirtual 149, 3) := by decide +kernel
theorem dX1_watchersAt_17 : decode cX1_watchersAt 17 = .ok (.iload_n 1, 1) := by decide +kernel
theorem dX1_watchersAt_18 : decode cX1_watchersAt 18 = .ok (.if_icmp .ne 6, 3) := by decide +kernel
theorem dX1_watchersAt_21 : decode cX1_watchersAt 21 = .ok (.iinc 2 1, 3) := by decide +kernel
theorem dX1_watchersAt_24 : decode cX1_watchersAt 24 = .ok (.iinc 3 1, 3) := by decide +kernel
theorem dX1_watchersAt_27 : decode cX1_watchersAt 27 = .ok (.goto (-23), 3) := by decide +kernel
theorem dX1_watchersAt_30 : decode cX1_watchersAt 30 = .ok (.iload_n 2, 1) := by decide +kernel
theorem dX1_watchersAt_31 : decode cX1_watchersAt 31 = .ok (.ireturn, 1) := by decide +kernel
set_option maxRecDepth 20000 in
theorem ggX1_isSeenBy_X1_isLit : GoodIn wsX1_isSeenBy wsX1_isLit := goodIn_r _ [5, 6, 7, 8, 4, 9, 10, 82, 83, 84, 85, 86, 87, 88, 89, 90, 91, 92] (by decide +kernel) (by decide +kernel)
set_option maxRecDepth 20000 in
theorem gX1_isSeenBy_X1_isLit : GoodIn wsX1_isSeenBy (wsV RX1 158 RX1 yX1_isLit wsX1_isLit) := goodIn_app (goodIn_of _ (by decide +kernel)) ggX1_isSeenBy_X1_isLit
set_option maxRecDepth 20000 in
theorem ggX1_isSeenBy_X1_cellOfWatcher : GoodIn wsX1_isSeenBy wsX1_cellOfWatcher := goodIn_r _ [14, 15, 82, 83, 84, 85, 86, 87, 88, 89, 90, 91, 92] (by decide +kernel) (by decide +kernel)
set_option maxRecDepth 20000 in
theorem gX1_isSeenBy_X1_cellOfWatcher : GoodIn wsX1_isSeenBy (wsV RX1 149 RX1 yX1_cellOfWatcher wsX1_cellOfWatcher) := goodIn_app (goodIn_of _ (by decide +kernel)) ggX1_isSeenBy_X1_cellOfWatcher
set_option maxRecDepth 20000 in
theorem ggX1_isSeenBy_X1_stoppedBetween : GoodIn wsX1_isSeenBy wsX1_stoppedBetween := goodIn_r _ [19, 20, 21, 22, 23, 24, 25, 26, 27, 28, 29, 30, 31, 32, 33, 34, 35, 36, 37, 38, 39, 4, 40, 41, 42, 43, 44, 45, 46, 47, 48, 49, 50, 51, 52, 53, 54, 55, 56, 57, 58, 59, 60, 61, 62, 63, 64, 65, 66, 67, 68, 69, 70, 71, 72, 73, 74, 75, 76, 77, 78, 79, 80, 81, 82, 83, 84, 85, 86, 87, 88, 89, 90, 91, 92, 93, 94, 95, 96, 97, 98, 99, 100, 101] (by decide +kernel) (by decide +kernel)
set_option maxRecDepth 20000 in
theorem gX1_isSeenBy_X1_stoppedBetween : GoodIn wsX1_isSeenBy (wsV RX1 193 RX1 yX1_stoppedBetween wsX1_stoppedBetween) := goodIn_app (goodIn_of _ (by decide +kernel)) ggX1_isSeenBy_X1_stoppedBetween
theorem dX1_isSeenBy_0 : decode cX1_isSeenBy 0 = .ok (.aload_n 0, 1) := by decide +kernel
theorem dX1_isSeenBy_1 : decode cX1_isSeenBy 1 = .ok (.iload_n 2, 1) := by decide +kernel
theorem dX1_isSeenBy_2 : decode cX1_isSeenBy 2 = .ok (.invokevirtual 158, 3) := by decide +kernel
theorem dX1_isSeenBy_5 : decode cX1_isSeenBy 5 = .ok (.ifCond .eq 22, 3) := by decide +kernel
theorem dX1_isSeenBy_8 : decode cX1_isSeenBy 8 = .ok (.aload_n 0, 1) := by decide +kernel
theorem dX1_isSeenBy_9 : decode cX1_isSeenBy 9 = .ok (.aload_n 0, 1) := by decide +kernel
theorem dX1_isSeenBy_10 : decode cX1_isSeenBy 10 = .ok (.iload_n 1, 1) := by decide +kernel
theorem dX1_isSeenBy_11 : decode cX1_isSeenBy 11 = .ok (.invokevirtual 149, 3) := by decide +kernel
theorem dX1_isSeenBy_14 : decode cX1_isSeenBy 14 = .ok (.iload_n 2, 1) := by decide +kernel
theorem dX1_isSeenBy_15 : decode cX1_isSeenBy 15 = .ok (.invokevirtual 193, 3) := by decide +kernel
theorem dX1_isSeenBy_18 : decode cX1_isSeenBy 18 = .ok (.iconst 2, 1) := by decide +kernel
theorem dX1_isSeenBy_19 : decode cX1_isSeenBy 19 = .ok (.iand, 1) := by decide +kernel
theorem dX1_isSeenBy_20 : decode cX1_isSeenBy 20 = .ok (.ifCond .ne 7, 3) := by decide +kernel
theorem dX1_isSeenBy_23 : decode cX1_isSeenBy 23 = .ok (.iconst 1, 1) := by decide +kernel
theorem dX1_isSeenBy_24 : decode cX1_isSeenBy 24 = .ok (.goto 4, 3) := by decide +kernel
theorem dX1_isSeenBy_27 : decode cX1_isSeenBy 27 = .ok (.iconst 0, 1) := by decide +kernel
theorem dX1_isSeenBy_28 : decode cX1_isSeenBy 28 = .ok (.ireturn, 1) := by decide +kernel
set_option maxRecDepth 20000 in
theorem ggX1_watchersSeeing_X1_isSeenBy : GoodIn wsX1_watchersSeeing wsX1_isSeenBy := goodIn_r _ [6, 7, 8, 9, 5, 10, 11, 12, 13, 14, 15, 16, 17, 18, 19, 20, 21, 22, 23, 24, 25, 26, 27, 28, 29, 30, 31, 32, 33, 34, 35, 36, 37, 38, 39, 40, 41, 42, 43, 44, 45, 46, 47, 48, 49, 50, 51, 52, 53, 54, 55, 56, 57, 58, 59, 60, 61, 62, 63, 64, 65, 66, 67, 68, 69, 70, 71, 72, 73, 74, 75, 76, 77, 78, 79, 80, 81, 82, 83, 84, 85, 86, 87, 88, 89, 90, 91, 92, 93, 94, 95, 96, 97, 98, 99, 100, 101, 102, 103, 104, 105, 106] (by decide +kernel) (by decide +kernel)
set_option maxRecDepth 20000 in
theorem gX1_watchersSeeing_X1_isSeenBy : GoodIn wsX1_watchersSeeing (wsV RX1 164 RX1 yX1_isSeenBy wsX1_isSeenBy) := goodIn_app (goodIn_of _ (by decide +kernel)) ggX1_watchersSeeing_X1_isSeenBy
theorem dX1_watchersSeeing_0 : decode cX1_watchersSeeing 0 = .ok (.iconst 0, 1) := by decide +kernel
theorem dX1_watchersSeeing_1 : decode cX1_watchersSeeing 1 = .ok (.istore_n 2, 1) := by decide +kernel
theorem dX1_watchersSeeing_2 : decode cX1_watchersSeeing 2 = .ok (.iconst 0, 1) := by decide +kernel
theorem dX1_watchersSeeing_3 : decode cX1_watchersSeeing 3 = .ok (.istore_n 3, 1) := by decide +kernel
theorem dX1_watchersSeeing_4 : decode cX1_watchersSeeing 4 = .ok (.iload_n 3, 1) := by decide +kernel
theorem dX1_watchersSeeing_5 : decode cX1_watchersSeeing 5 = .ok (.aload_n 0, 1) := by decide +kernel
theorem dX1_watchersSeeing_6 : decode cX1_watchersSeeing 6 = .ok (.getfield 99, 3) := by decide +kernel
theorem dX1_watchersSeeing_9 : decode cX1_watchersSeeing 9 = .ok (.if_icmp .ge 21, 3) := by decide +kernel
theorem dX1_watchersSeeing_12 : decode cX1_watchersSeeing 12 = .ok (.aload_n 0, 1) := by decide +kernel
theorem dX1_watchersSeeing_13 : decode cX1_watchersSeeing 13 = .ok (.iload_n 3, 1) := by decide +kernel
theorem dX1_watchersSeeing_14 : decode cX1_watchersSeeing 14 = .ok (.iload_n 1, 1) := by decide +kernel
theorem dX1_watchersSeeing_15 : decode cX1_watchersSeeing 15 = .ok (.invokevirtual 164, 3) := by decide +kernel
theorem dX1_watchersSeeing_18 : decode cX1_watchersSeeing 18 = .ok (.ifCond .eq 6, 3) := by decide +kernel
theorem dX1_watchersSeeing_21 : decode cX1_watchersSeeing 21 = .ok (.iinc 2 1, 3) := by decide +kernel
theorem dX1_watchersSeeing_24 : decode cX1_watchersSeeing 24 = .ok (.iinc 3 1, 3) := by decide +kernel
theorem dX1_watchersSeeing_27 : decode cX1_watchersSeeing 27 = .ok (.goto (-23), 3) := by decide +kernel
theorem dX1_watchersSeeing_30 : decode cX1_watchersSeeing 30 = .ok (.iload_n 2, 1) := by decide +kernel
theorem dX1_watchersSeeing_31 : decode cX1_watchersSeeing 31 = .ok (.ireturn, 1) := by decide +kernel
set_option maxRecDepth 20000 in
theorem ggX1_cellsSeenBy_X1_isSeenBy : GoodIn wsX1_cellsSeenBy wsX1_isSeenBy := goodIn_r _ [5, 6, 7, 8, 4, 9, 10, 11, 12, 13, 14, 15, 16, 17, 18, 19, 20, 21, 22, 23, 24, 25, 26, 27, 28, 29, 30, 31, 32, 33, 34, 35, 36, 37, 38, 39, 40, 41, 42, 43, 44, 45, 46, 47, 48, 49, 50, 51, 52, 53, 54, 55, 56, 57, 58, 59, 60, 61, 62, 63, 64, 65, 66, 67, 68, 69, 70, 71, 72, 73, 74, 75, 76, 77, 78, 79, 80, 81, 82, 83, 84, 85, 86, 87, 88, 89, 90, 91, 92, 93, 94, 95, 96, 97, 98, 99, 100, 101, 102, 103, 104, 105] (by decide +kernel) (by decide +kernel)
set_option maxRecDepth 20000 in
theorem gX1_cellsSeenBy_X1_isSeenBy : GoodIn wsX1_cellsSeenBy (wsV RX1 164 RX1 yX1_isSeenBy wsX1_isSeenBy) := goodIn_app (goodIn_of _ (by decide +kernel)) ggX1_cellsSeenBy_X1_isSeenBy
theorem dX1_cellsSeenBy_0 : decode cX1_cellsSeenBy 0 = .ok (.iconst 0, 1) := by decide +kernel
theorem dX1_cellsSeenBy_1 : decode cX1_cellsSeenBy 1 = .ok (.istore_n 2, 1) := by decide +kernel
theorem dX1_cellsSeenBy_2 : decode cX1_cellsSeenBy 2 = .ok (.iconst 0, 1) := by decide +kernel
theorem dX1_cellsSeenBy_3 : decode cX1_cellsSeenBy 3 = .ok (.istore_n 3, 1) := by decide +kernel
theorem dX1_cellsSeenBy_4 : decode cX1_cellsSeenBy 4 = .ok (.iload_n 3, 1) := by decide +kernel
theorem dX1_cellsSeenBy_5 : decode cX1_cellsSeenBy 5 = .ok (.sipush 144, 3) := by decide +kernel
theorem dX1_cellsSeenBy_8 : decode cX1_cellsSeenBy 8 = .ok (.if_icmp .ge 21, 3) := by decide +kernel
theorem dX1_cellsSeenBy_11 : decode cX1_cellsSeenBy 11 = .ok (.aload_n 0, 1) := by decide +kernel
theorem dX1_cellsSeenBy_12 : decode cX1_cellsSeenBy 12 = .ok (.iload_n 1, 1) := by decide +kernel
theorem dX1_cellsSeenBy_13 : decode cX1_cellsSeenBy 13 = .ok (.iload_n 3, 1) := by decide +kernel
theorem dX1_cellsSeenBy_14 : decode cX1_cellsSeenBy 14 = .ok (.invokevirtual 164, 3) := by decide +kernel
theorem dX1_cellsSeenBy_17 : decode cX1_cellsSeenBy 17 = .ok (.ifCond .eq 6, 3) := by decide +kernel
theorem dX1_cellsSeenBy_20 : decode cX1_cellsSeenBy 20 = .ok (.iinc 2 1, 3) := by decide +kernel
theorem dX1_cellsSeenBy_23 : decode cX1_cellsSeenBy 23 = .ok (.iinc 3 1, 3) := by decide +kernel
theorem dX1_cellsSeenBy_26 : decode cX1_cellsSeenBy 26 = .ok (.goto (-22), 3) := by decide +kernel
theorem dX1_cellsSeenBy_29 : decode cX1_cellsSeenBy 29 = .ok (.iload_n 2, 1) := by decide +kernel
theorem dX1_cellsSeenBy_30 : decode cX1_cellsSeenBy 30 = .ok (.ireturn, 1) := by decide +kernel
set_option maxRecDepth 20000 in
theorem ggX1_othersSeenBy_X1_cellOfWatcher : GoodIn wsX1_othersSeenBy wsX1_cellOfWatcher := goodIn_r _ [6, 7, 87, 88, 89, 90, 91, 92, 93, 94, 95, 96, 97] (by decide +kernel) (by decide +kernel)
set_option maxRecDepth 20000 in
theorem gX1_othersSeenBy_X1_cellOfWatcher : GoodIn wsX1_othersSeenBy (wsV RX1 149 RX1 yX1_cellOfWatcher wsX1_cellOfWatcher) := goodIn_app (goodIn_of _ (by decide +kernel)) ggX1_othersSeenBy_X1_cellOfWatcher
set_option maxRecDepth 20000 in
theorem ggX1_othersSeenBy_X1_isSeenBy : GoodIn wsX1_othersSeenBy wsX1_isSeenBy := goodIn_r _ [11, 12, 13, 14, 5, 15, 16, 17, 18, 19, 20, 2, 3, 4, 6, 7, 21, 22, 23, 24, 25, 26, 27, 28, 29, 30, 31, 32, 33, 34, 35, 36, 37, 38, 39, 40, 41, 42, 43, 44, 45, 46, 47, 48, 49, 50, 51, 52, 53, 54, 55, 56, 57, 58, 59, 60, 61, 62, 63, 64, 65, 66, 67, 68, 69, 70, 71, 72, 73, 74, 75, 76, 77, 78, 79, 80, 81, 82, 83, 84, 85, 86, 87, 88, 89, 90, 91, 92, 93, 94, 95, 96, 97, 98, 99, 100, 101, 102, 103, 104, 105, 106] (by decide +kernel) (by decide +kernel)
set_option maxRecDepth 20000 in
theorem gX1_othersSeenBy_X1_isSeenBy : GoodIn wsX1_othersSeenBy (wsV RX1 164 RX1 yX1_isSeenBy wsX1_isSeenBy) := goodIn_app (goodIn_of _ (by decide +kernel)) ggX1_othersSeenBy_X1_isSeenBy
theorem dX1_othersSeenBy_0 : decode cX1_othersSeenBy 0 = .ok (.iconst 0, 1) := by decide +kernel
theorem dX1_othersSeenBy_1 : decode cX1_othersSeenBy 1 = .ok (.istore_n 2, 1) := by decide +kernel
theorem dX1_othersSeenBy_2 : decode cX1_othersSeenBy 2 = .ok (.iconst 0, 1) := by decide +kernel
theorem dX1_othersSeenBy_3 : decode cX1_othersSeenBy 3 = .ok (.istore_n 3, 1) := by decide +kernel
theorem dX1_othersSeenBy_4 : decode cX1_othersSeenBy 4 = .ok (.iload_n 3, 1) := by decide +kernel
theorem dX1_othersSeenBy_5 : decode cX1_othersSeenBy 5 = .ok (.aload_n 0, 1) := by decide +kernel
theorem dX1_othersSeenBy_6 : decode cX1_othersSeenBy 6 = .ok (.getfield 99, 3) := by decide +kernel
theorem dX1_othersSeenBy_9 : decode cX1_othersSeenBy 9 = .ok (.if_icmp .ge 30, 3) := by decide +kernel
theorem dX1_othersSeenBy_12 : decode cX1_othersSeenBy 12 = .ok (.iload_n 3, 1) := by decide +kernel
theorem dX1_othersSeenBy_13 : decode cX1_othersSeenBy 13 = .ok (.iload_n 1, 1) := by decide +kernel
theorem dX1_othersSeenBy_14 : decode cX1_othersSeenBy 14 = .ok (.if_icmp .eq 19, 3) := by decide +kernel
theorem dX1_othersSeenBy_17 : decode cX1_othersSeenBy 17 = .ok (.aload_n 0, 1) := by decide +kernel
theorem dX1_othersSeenBy_18 : decode cX1_othersSeenBy 18 = .ok (.iload_n 1, 1) := by decide +kernel
theorem dX1_othersSeenBy_19 : decode cX1_othersSeenBy 19 = .ok (.aload_n 0, 1) := by decide +kernel
theorem dX1_othersSeenBy_20 : decode cX1_othersSeenBy 20 = .ok (.iload_n 3, 1) := by decide +kernel
theorem dX1_othersSeenBy_21 : decode cX1_othersSeenBy 21 = .ok (.invokevirtual 149, 3) := by decide +kernel
theorem dX1_othersSeenBy_24 : decode cX1_othersSeenBy 24 = .ok (.invokevirtual 164, 3) := by decide +kernel
theorem dX1_othersSeenBy_27 : decode cX1_othersSeenBy 27 = .ok (.ifCond .eq 6, 3) := by decide +kernel
theorem dX1_othersSeenBy_30 : decode cX1_othersSeenBy 30 = .ok (.iinc 2 1, 3) := by decide +kernel
theorem dX1_othersSeenBy_33 : decode cX1_othersSeenBy 33 = .ok (.iinc 3 1, 3) := by decide +kernel
theorem dX1_othersSeenBy_36 : decode cX1_othersSeenBy 36 = .ok (.goto (-32), 3) := by decide +kernel
theorem dX1_othersSeenBy_39 : decode cX1_othersSeenBy 39 = .ok (.iload_n 2, 1) := by decide +kernel
theorem dX1_othersSeenBy_40 : decode cX1_othersSeenBy 40 = .ok (.ireturn, 1) := by decide +kernel
set_option maxRecDepth 20000 in
theorem ggX1_isHidden_X1_cellOfWatcher : GoodIn wsX1_isHidden wsX1_cellOfWatcher := goodIn_r _ [6, 7, 87, 88, 89, 90, 91, 92, 93, 94, 95, 96, 97] (by decide +kernel) (by decide +kernel)
set_option maxRecDepth 20000 in
theorem gX1_isHidden_X1_cellOfWatcher : GoodIn wsX1_isHidden (wsV RX1 149 RX1 yX1_cellOfWatcher wsX1_cellOfWatcher) := goodIn_app (goodIn_of _ (by decide +kernel)) ggX1_isHidden_X1_cellOfWatcher
set_option maxRecDepth 20000 in
theorem ggX1_isHidden_X1_isSeenBy : GoodIn wsX1_isHidden wsX1_isSeenBy := goodIn_r _ [11, 12, 13, 14, 5, 15, 16, 17, 18, 19, 20, 2, 3, 4, 6, 7, 21, 22, 23, 24, 25, 26, 27, 28, 29, 30, 31, 32, 33, 34, 35, 36, 37, 38, 39, 40, 41, 42, 43, 44, 45, 46, 47, 48, 49, 50, 51, 52, 53, 54, 55, 56, 57, 58, 59, 60, 61, 62, 63, 64, 65, 66, 67, 68, 69, 70, 71, 72, 73, 74, 75, 76, 77, 78, 79, 80, 81, 82, 83, 84, 85, 86, 87, 88, 89, 90, 91, 92, 93, 94, 95, 96, 97, 98, 99, 100, 101, 102, 103, 104, 105, 106] (by decide +kernel) (by decide +kernel)
set_option maxRecDepth 20000 in
theorem gX1_isHidden_X1_isSeenBy : GoodIn wsX1_isHidden (wsV RX1 164 RX1 yX1_isSeenBy wsX1_isSeenBy) := goodIn_app (goodIn_of _ (by decide +kernel)) ggX1_isHidden_X1_isSeenBy
theorem dX1_isHidden_0 : decode cX1_isHidden 0 = .ok (.iconst 0, 1) := by decide +kernel
theorem dX1_isHidden_1 : decode cX1_isHidden 1 = .ok (.istore_n 2, 1) := by decide +kernel
theorem dX1_isHidden_2 : decode cX1_isHidden 2 = .ok (.iload_n 2, 1) := by decide +kernel
theorem dX1_isHidden_3 : decode cX1_isHidden 3 = .ok (.aload_n 0, 1) := by decide +kernel
theorem dX1_isHidden_4 : decode cX1_isHidden 4 = .ok (.getfield 99, 3) := by decide +kernel
theorem dX1_isHidden_7 : decode cX1_isHidden 7 = .ok (.if_icmp .ge 29, 3) := by decide +kernel
theorem dX1_isHidden_10 : decode cX1_isHidden 10 = .ok (.iload_n 2, 1) := by decide +kernel
theorem dX1_isHidden_11 : decode cX1_isHidden 11 = .ok (.iload_n 1, 1) := by decide +kernel
theorem dX1_isHidden_12 : decode cX1_isHidden 12 = .ok (.if_icmp .eq 18, 3) := by decide +kernel
theorem dX1_isHidden_15 : decode cX1_isHidden 15 = .ok (.aload_n 0, 1) := by decide +kernel
theorem dX1_isHidden_16 : decode cX1_isHidden 16 = .ok (.iload_n 2, 1) := by decide +kernel
theorem dX1_isHidden_17 : decode cX1_isHidden 17 = .ok (.aload_n 0, 1) := by decide +kernel
theorem dX1_isHidden_18 : decode cX1_isHidden 18 = .ok (.iload_n 1, 1) := by decide +kernel
theorem dX1_isHidden_19 : decode cX1_isHidden 19 = .ok (.invokevirtual 149, 3) := by decide +kernel
theorem dX1_isHidden_22 : decode cX1_isHidden 22 = .ok (.invokevirtual 164, 3) := by decide +kernel
theorem dX1_isHidden_25 : decode cX1_isHidden 25 = .ok (.ifCond .eq 5, 3) := by decide +kernel
theorem dX1_isHidden_28 : decode cX1_isHidden 28 = .ok (.iconst 0, 1) := by decide +kernel
theorem dX1_isHidden_29 : decode cX1_isHidden 29 = .ok (.ireturn, 1) := by decide +kernel
theorem dX1_isHidden_30 : decode cX1_isHidden 30 = .ok (.iinc 2 1, 3) := by decide +kernel
theorem dX1_isHidden_33 : decode cX1_isHidden 33 = .ok (.goto (-31), 3) := by decide +kernel
theorem dX1_isHidden_36 : decode cX1_isHidden 36 = .ok (.iconst 1, 1) := by decide +kernel
theorem dX1_isHidden_37 : decode cX1_isHidden 37 = .ok (.ireturn, 1) := by decide +kernel
set_option maxRecDepth 20000 in
theorem ggX1_hiddenWatchers_X1_isHidden : GoodIn wsX1_hiddenWatchers wsX1_isHidden := goodIn_r _ [6, 1, 7, 8, 9, 5, 10, 11, 12, 13, 14, 15, 16, 17, 18, 19, 20, 21, 22, 23, 24, 25, 26, 27, 28, 29, 30, 31, 32, 33, 34, 35, 36, 37, 38, 39, 40, 41, 42, 43, 44, 45, 46, 47, 48, 49, 50, 51, 52, 53, 54, 55, 56, 57, 58, 59, 60, 61, 62, 63, 64, 65, 66, 67, 68, 69, 70, 71, 72, 73, 74, 75, 76, 77, 78, 79, 80, 81, 82, 83, 84, 85, 86, 87, 88, 89, 90, 91, 92, 93, 94, 95, 96, 97, 98, 99, 100, 101, 102, 103, 104, 105, 106, 107, 108, 109, 110] (by decide +kernel) (by decide +kernel)
set_option maxRecDepth 20000 in
theorem gX1_hiddenWatchers_X1_isHidden : GoodIn wsX1_hiddenWatchers (wsV RX1 155 RX1 yX1_isHidden wsX1_isHidden) := goodIn_app (goodIn_of _ (by decide +kernel)) ggX1_hiddenWatchers_X1_isHidden
theorem dX1_hiddenWatchers_0 : decode cX1_hiddenWatchers 0 = .ok (.iconst 0, 1) := by decide +kernel
theorem dX1_hiddenWatchers_1 : decode cX1_hiddenWatchers 1 = .ok (.istore_n 1, 1) := by decide +kernel
theorem dX1_hiddenWatchers_2 : decode cX1_hiddenWatchers 2 = .ok (.iconst 0, 1) := by decide +kernel
theorem dX1_hiddenWatchers_3 : decode cX1_hiddenWatchers 3 = .ok (.istore_n 2, 1) := by decide +kernel
theorem dX1_hiddenWatchers_4 : decode cX1_hiddenWatchers 4 = .ok (.iload_n 2, 1) := by decide +kernel
theorem dX1_hiddenWatchers_5 : decode cX1_hiddenWatchers 5 = .ok (.aload_n 0, 1) := by decide +kernel
theorem dX1_hiddenWatchers_6 : decode cX1_hiddenWatchers 6 = .ok (.getfield 99, 3) := by decide +kernel
theorem dX1_hiddenWatchers_9 : decode cX1_hiddenWatchers 9 = .ok (.if_icmp .ge 20, 3) := by decide +kernel
theorem dX1_hiddenWatchers_12 : decode cX1_hiddenWatchers 12 = .ok (.aload_n 0, 1) := by decide +kernel
theorem dX1_hiddenWatchers_13 : decode cX1_hiddenWatchers 13 = .ok (.iload_n 2, 1) := by decide +kernel
theorem dX1_hiddenWatchers_14 : decode cX1_hiddenWatchers 14 = .ok (.invokevirtual 155, 3) := by decide +kernel
theorem dX1_hiddenWatchers_17 : decode cX1_hiddenWatchers 17 = .ok (.ifCond .eq 6, 3) := by decide +kernel
theorem dX1_hiddenWatchers_20 : decode cX1_hiddenWatchers 20 = .ok (.iinc 1 1, 3) := by decide +kernel
theorem dX1_hiddenWatchers_23 : decode cX1_hiddenWatchers 23 = .ok (.iinc 2 1, 3) := by decide +kernel
theorem dX1_hiddenWatchers_26 : decode cX1_hiddenWatchers 26 = .ok (.goto (-22), 3) := by decide +kernel
theorem dX1_hiddenWatchers_29 : decode cX1_hiddenWatchers 29 = .ok (.iload_n 1, 1) := by decide +kernel
theorem dX1_hiddenWatchers_30 : decode cX1_hiddenWatchers 30 = .ok (.ireturn, 1) := by decide +kernel
set_option maxRecDepth 20000 in
theorem ggX1_stepsTo_X1_cellOfWatcher : GoodIn wsX1_stepsTo wsX1_cellOfWatcher := goodIn_r _ [5, 6, 48, 49, 50, 51, 52, 53, 54, 55, 56, 57, 58] (by decide +kernel) (by decide +kernel)
set_option maxRecDepth 20000 in
theorem gX1_stepsTo_X1_cellOfWatcher : GoodIn wsX1_stepsTo (wsV RX1 149 RX1 yX1_cellOfWatcher wsX1_cellOfWatcher) := goodIn_app (goodIn_of _ (by decide +kernel)) ggX1_stepsTo_X1_cellOfWatcher
set_option maxRecDepth 20000 in
theorem ggX1_stepsTo_X1_spreadFrom : GoodIn wsX1_stepsTo wsX1_spreadFrom := goodIn_r _ [10, 11, 12, 13, 14, 15, 16, 17, 18, 19, 4, 20, 21, 22, 23, 24, 25, 26, 27, 28, 29, 30, 31, 32, 33, 34, 35, 36, 37, 38, 39, 40, 41, 42, 43, 44, 45, 46, 47, 48, 49, 50, 51, 52, 53, 54, 55, 56, 57, 58] (by decide +kernel) (by decide +kernel)
set_option maxRecDepth 20000 in
theorem gX1_stepsTo_X1_spreadFrom : GoodIn wsX1_stepsTo (wsV RX1 276 RX1 yX1_spreadFrom wsX1_spreadFrom) := goodIn_app (goodIn_of _ (by decide +kernel)) ggX1_stepsTo_X1_spreadFrom
set_option maxRecDepth 20000 in
theorem ggX1_stepsTo_X1_stepsAt : GoodIn wsX1_stepsTo wsX1_stepsAt := goodIn_r _ [33, 11, 48, 49, 50, 51, 52, 53, 54, 55, 56, 57, 58] (by decide +kernel) (by decide +kernel)
set_option maxRecDepth 20000 in
theorem gX1_stepsTo_X1_stepsAt : GoodIn wsX1_stepsTo (wsV RX1 279 RX1 yX1_stepsAt wsX1_stepsAt) := goodIn_app (goodIn_of _ (by decide +kernel)) ggX1_stepsTo_X1_stepsAt
theorem dX1_stepsTo_0 : decode cX1_stepsTo 0 = .ok (.aload_n 0, 1) := by decide +kernel
theorem dX1_stepsTo_1 : decode cX1_stepsTo 1 = .ok (.iload_n 1, 1) := by decide +kernel
theorem dX1_stepsTo_2 : decode cX1_stepsTo 2 = .ok (.invokevirtual 149, 3) := by decide +kernel
theorem dX1_stepsTo_5 : decode cX1_stepsTo 5 = .ok (.istore_n 3, 1) := by decide +kernel
theorem dX1_stepsTo_6 : decode cX1_stepsTo 6 = .ok (.iload_n 3, 1) := by decide +kernel
theorem dX1_stepsTo_7 : decode cX1_stepsTo 7 = .ok (.iload_n 2, 1) := by decide +kernel
theorem dX1_stepsTo_8 : decode cX1_stepsTo 8 = .ok (.if_icmp .ne 5, 3) := by decide +kernel
theorem dX1_stepsTo_11 : decode cX1_stepsTo 11 = .ok (.iconst 0, 1) := by decide +kernel
theorem dX1_stepsTo_12 : decode cX1_stepsTo 12 = .ok (.ireturn, 1) := by decide +kernel
theorem dX1_stepsTo_13 : decode cX1_stepsTo 13 = .ok (.aload_n 0, 1) := by decide +kernel
theorem dX1_stepsTo_14 : decode cX1_stepsTo 14 = .ok (.iload_n 3, 1) := by decide +kernel
theorem dX1_stepsTo_15 : decode cX1_stepsTo 15 = .ok (.invokevirtual 276, 3) := by decide +kernel
theorem dX1_stepsTo_18 : decode cX1_stepsTo 18 = .ok (.aload_n 0, 1) := by decide +kernel
theorem dX1_stepsTo_19 : decode cX1_stepsTo 19 = .ok (.iload_n 2, 1) := by decide +kernel
theorem dX1_stepsTo_20 : decode cX1_stepsTo 20 = .ok (.invokevirtual 279, 3) := by decide +kernel
theorem dX1_stepsTo_23 : decode cX1_stepsTo 23 = .ok (.ireturn, 1) := by decide +kernel
theorem dX1_stepsAt_0 : decode cX1_stepsAt 0 = .ok (.iload_n 1, 1) := by decide +kernel
theorem dX1_stepsAt_1 : decode cX1_stepsAt 1 = .ok (.ifCond .lt 21, 3) := by decide +kernel
theorem dX1_stepsAt_4 : decode cX1_stepsAt 4 = .ok (.iload_n 1, 1) := by decide +kernel
theorem dX1_stepsAt_5 : decode cX1_stepsAt 5 = .ok (.aload_n 0, 1) := by decide +kernel
theorem dX1_stepsAt_6 : decode cX1_stepsAt 6 = .ok (.getfield 25, 3) := by decide +kernel
theorem dX1_stepsAt_9 : decode cX1_stepsAt 9 = .ok (.arraylength, 1) := by decide +kernel
theorem dX1_stepsAt_10 : decode cX1_stepsAt 10 = .ok (.if_icmp .ge 12, 3) := by decide +kernel
theorem dX1_stepsAt_13 : decode cX1_stepsAt 13 = .ok (.aload_n 0, 1) := by decide +kernel
theorem dX1_stepsAt_14 : decode cX1_stepsAt 14 = .ok (.getfield 25, 3) := by decide +kernel
theorem dX1_stepsAt_17 : decode cX1_stepsAt 17 = .ok (.iload_n 1, 1) := by decide +kernel
theorem dX1_stepsAt_18 : decode cX1_stepsAt 18 = .ok (.iaload, 1) := by decide +kernel
theorem dX1_stepsAt_19 : decode cX1_stepsAt 19 = .ok (.goto 4, 3) := by decide +kernel
theorem dX1_stepsAt_22 : decode cX1_stepsAt 22 = .ok (.iconst (-1), 1) := by decide +kernel
theorem dX1_stepsAt_23 : decode cX1_stepsAt 23 = .ok (.ireturn, 1) := by decide +kernel
set_option maxRecDepth 20000 in
theorem ggX1_spreadFrom_J7_fill_53178 : GoodIn wsX1_spreadFrom wsJ7_fill_53178 := goodIn_r _ [6] (by decide +kernel) (by decide +kernel)
set_option maxRecDepth 20000 in
theorem gX1_spreadFrom_J7_fill_53178 : GoodIn wsX1_spreadFrom (va_wsS RX1 282 yJ7_fill_53178 wsJ7_fill_53178) := goodIn_app (goodIn_of _ (by decide +kernel)) ggX1_spreadFrom_J7_fill_53178
set_option maxRecDepth 20000 in
theorem ggX1_spreadFrom_X1_enqueue : GoodIn wsX1_spreadFrom wsX1_enqueue := goodIn_r _ [11, 1, 2, 39, 40, 41, 42, 43, 44, 45, 46, 47, 48, 49] (by decide +kernel) (by decide +kernel)
set_option maxRecDepth 20000 in
theorem gX1_spreadFrom_X1_enqueue : GoodIn wsX1_spreadFrom (wsV RX1 288 RX1 yX1_enqueue wsX1_enqueue) := goodIn_app (goodIn_of _ (by decide +kernel)) ggX1_spreadFrom_X1_enqueue
set_option maxRecDepth 20000 in
theorem ggX1_spreadFrom_X1_neighbour : GoodIn wsX1_spreadFrom wsX1_neighbour := goodIn_r _ [14, 15, 16, 10, 17, 18, 19, 20] (by decide +kernel) (by decide +kernel)
set_option maxRecDepth 20000 in
theorem gX1_spreadFrom_X1_neighbour : GoodIn wsX1_spreadFrom (va_wsS RX1 199 yX1_neighbour wsX1_neighbour) := goodIn_app (goodIn_of _ (by decide +kernel)) ggX1_spreadFrom_X1_neighbour
set_option maxRecDepth 20000 in
theorem ggX1_spreadFrom_X1_stepsAt : GoodIn wsX1_spreadFrom wsX1_stepsAt := goodIn_r _ [24, 1, 39, 40, 41, 42, 43, 44, 45, 46, 47, 48, 49] (by decide +kernel) (by decide +kernel)
set_option maxRecDepth 20000 in
theorem gX1_spreadFrom_X1_stepsAt : GoodIn wsX1_spreadFrom (wsV RX1 279 RX1 yX1_stepsAt wsX1_stepsAt) := goodIn_app (goodIn_of _ (by decide +kernel)) ggX1_spreadFrom_X1_stepsAt
set_option maxRecDepth 20000 in
theorem ggX1_spreadFrom_X1_kindOf : GoodIn wsX1_spreadFrom wsX1_kindOf := goodIn_r _ [28, 29, 39, 40, 41, 42, 43, 44, 45, 46, 47, 48, 49] (by decide +kernel) (by decide +kernel)
set_option maxRecDepth 20000 in
theorem gX1_spreadFrom_X1_kindOf : GoodIn wsX1_spreadFrom (wsV RX1 50 RX1 yX1_kindOf wsX1_kindOf) := goodIn_app (goodIn_of _ (by decide +kernel)) ggX1_spreadFrom_X1_kindOf
set_option maxRecDepth 20000 in
theorem ggX1_spreadFrom_X1_isLit : GoodIn wsX1_spreadFrom wsX1_isLit := goodIn_r _ [33, 34, 35, 36, 10, 37, 38, 39, 40, 41, 42, 43, 44, 45, 46, 47, 48, 49] (by decide +kernel) (by decide +kernel)
set_option maxRecDepth 20000 in
theorem gX1_spreadFrom_X1_isLit : GoodIn wsX1_spreadFrom (wsV RX1 158 RX1 yX1_isLit wsX1_isLit) := goodIn_app (goodIn_of _ (by decide +kernel)) ggX1_spreadFrom_X1_isLit
theorem dX1_spreadFrom_0 : decode cX1_spreadFrom 0 = .ok (.aload_n 0, 1) := by decide +kernel
theorem dX1_spreadFrom_1 : decode cX1_spreadFrom 1 = .ok (.getfield 25, 3) := by decide +kernel
theorem dX1_spreadFrom_4 : decode cX1_spreadFrom 4 = .ok (.iconst (-1), 1) := by decide +kernel
theorem dX1_spreadFrom_5 : decode cX1_spreadFrom 5 = .ok (.invokestatic 282, 3) := by decide +kernel
theorem dX1_spreadFrom_8 : decode cX1_spreadFrom 8 = .ok (.aload_n 0, 1) := by decide +kernel
theorem dX1_spreadFrom_9 : decode cX1_spreadFrom 9 = .ok (.iload_n 1, 1) := by decide +kernel
theorem dX1_spreadFrom_10 : decode cX1_spreadFrom 10 = .ok (.iconst 0, 1) := by decide +kernel
theorem dX1_spreadFrom_11 : decode cX1_spreadFrom 11 = .ok (.iconst 0, 1) := by decide +kernel
theorem dX1_spreadFrom_12 : decode cX1_spreadFrom 12 = .ok (.invokevirtual 288, 3) := by decide +kernel
theorem dX1_spreadFrom_15 : decode cX1_spreadFrom 15 = .ok (.istore_n 2, 1) := by decide +kernel
theorem dX1_spreadFrom_16 : decode cX1_spreadFrom 16 = .ok (.iconst 0, 1) := by decide +kernel
theorem dX1_spreadFrom_17 : decode cX1_spreadFrom 17 = .ok (.istore_n 3, 1) := by decide +kernel
theorem dX1_spreadFrom_18 : decode cX1_spreadFrom 18 = .ok (.iload_n 3, 1) := by decide +kernel
theorem dX1_spreadFrom_19 : decode cX1_spreadFrom 19 = .ok (.iload_n 2, 1) := by decide +kernel
theorem dX1_spreadFrom_20 : decode cX1_spreadFrom 20 = .ok (.if_icmp .ge 100, 3) := by decide +kernel
theorem dX1_spreadFrom_23 : decode cX1_spreadFrom 23 = .ok (.iload_n 3, 1) := by decide +kernel
theorem dX1_spreadFrom_24 : decode cX1_spreadFrom 24 = .ok (.aload_n 0, 1) := by decide +kernel
theorem dX1_spreadFrom_25 : decode cX1_spreadFrom 25 = .ok (.getfield 28, 3) := by decide +kernel
theorem dX1_spreadFrom_28 : decode cX1_spreadFrom 28 = .ok (.arraylength, 1) := by decide +kernel
theorem dX1_spreadFrom_29 : decode cX1_spreadFrom 29 = .ok (.if_icmp .ge 91, 3) := by decide +kernel
theorem dX1_spreadFrom_32 : decode cX1_spreadFrom 32 = .ok (.aload_n 0, 1) := by decide +kernel
theorem dX1_spreadFrom_33 : decode cX1_spreadFrom 33 = .ok (.getfield 28, 3) := by decide +kernel
theorem dX1_spreadFrom_36 : decode cX1_spreadFrom 36 = .ok (.iload_n 3, 1) := by decide +kernel
theorem dX1_spreadFrom_37 : decode cX1_spreadFrom 37 = .ok (.iaload, 1) := by decide +kernel
theorem dX1_spreadFrom_38 : decode cX1_spreadFrom 38 = .ok (.istore 4, 2) := by decide +kernel
theorem dX1_spreadFrom_40 : decode cX1_spreadFrom 40 = .ok (.iconst 0, 1) := by decide +kernel
theorem dX1_spreadFrom_41 : decode cX1_spreadFrom 41 = .ok (.istore 5, 2) := by decide +kernel
theorem dX1_spreadFrom_43 : decode cX1_spreadFrom 43 = .ok (.iload 5, 2) := by decide +kernel
theorem dX1_spreadFrom_45 : decode cX1_spreadFrom 45 = .ok (.iconst 4, 1) := by decide +kernel
theorem dX1_spreadFrom_46 : decode cX1_spreadFrom 46 = .ok (.if_icmp .ge 68, 3) := by decide +kernel
theorem dX1_spreadFrom_49 : decode cX1_spreadFrom 49 = .ok (.iload 4, 2) := by decide +kernel
theorem dX1_spreadFrom_51 : decode cX1_spreadFrom 51 = .ok (.iload 5, 2) := by decide +kernel
theorem dX1_spreadFrom_53 : decode cX1_spreadFrom 53 = .ok (.invokestatic 199, 3) := by decide +kernel
theorem dX1_spreadFrom_56 : decode cX1_spreadFrom 56 = .ok (.istore 6, 2) := by decide +kernel
theorem dX1_spreadFrom_58 : decode cX1_spreadFrom 58 = .ok (.iload 6, 2) := by decide +kernel
theorem dX1_spreadFrom_60 : decode cX1_spreadFrom 60 = .ok (.iconst (-1), 1) := by decide +kernel
theorem dX1_spreadFrom_61 : decode cX1_spreadFrom 61 = .ok (.if_icmp .eq 47, 3) := by decide +kernel
theorem dX1_spreadFrom_64 : decode cX1_spreadFrom 64 = .ok (.aload_n 0, 1) := by decide +kernel
theorem dX1_spreadFrom_65 : decode cX1_spreadFrom 65 = .ok (.iload 6, 2) := by decide +kernel
theorem dX1_spreadFrom_67 : decode cX1_spreadFrom 67 = .ok (.invokevirtual 279, 3) := by decide +kernel
theorem dX1_spreadFrom_70 : decode cX1_spreadFrom 70 = .ok (.iconst (-1), 1) := by decide +kernel
theorem dX1_spreadFrom_71 : decode cX1_spreadFrom 71 = .ok (.if_icmp .ne 37, 3) := by decide +kernel
theorem dX1_spreadFrom_74 : decode cX1_spreadFrom 74 = .ok (.aload_n 0, 1) := by decide +kernel
theorem dX1_spreadFrom_75 : decode cX1_spreadFrom 75 = .ok (.iload 6, 2) := by decide +kernel
theorem dX1_spreadFrom_77 : decode cX1_spreadFrom 77 = .ok (.invokevirtual 50, 3) := by decide +kernel
theorem dX1_spreadFrom_80 : decode cX1_spreadFrom 80 = .ok (.ifCond .ne 28, 3) := by decide +kernel
theorem dX1_spreadFrom_83 : decode cX1_spreadFrom 83 = .ok (.aload_n 0, 1) := by decide +kernel
theorem dX1_spreadFrom_84 : decode cX1_spreadFrom 84 = .ok (.iload 6, 2) := by decide +kernel
theorem dX1_spreadFrom_86 : decode cX1_spreadFrom 86 = .ok (.invokevirtual 158, 3) := by decide +kernel
theorem dX1_spreadFrom_89 : decode cX1_spreadFrom 89 = .ok (.ifCond .ne 19, 3) := by decide +kernel
theorem dX1_spreadFrom_92 : decode cX1_spreadFrom 92 = .ok (.aload_n 0, 1) := by decide +kernel
theorem dX1_spreadFrom_93 : decode cX1_spreadFrom 93 = .ok (.iload 6, 2) := by decide +kernel
theorem dX1_spreadFrom_95 : decode cX1_spreadFrom 95 = .ok (.aload_n 0, 1) := by decide +kernel
theorem dX1_spreadFrom_96 : decode cX1_spreadFrom 96 = .ok (.iload 4, 2) := by decide +kernel
theorem dX1_spreadFrom_98 : decode cX1_spreadFrom 98 = .ok (.invokevirtual 279, 3) := by decide +kernel
theorem dX1_spreadFrom_101 : decode cX1_spreadFrom 101 = .ok (.iconst 1, 1) := by decide +kernel
theorem dX1_spreadFrom_102 : decode cX1_spreadFrom 102 = .ok (.iadd, 1) := by decide +kernel
theorem dX1_spreadFrom_103 : decode cX1_spreadFrom 103 = .ok (.iload_n 2, 1) := by decide +kernel
theorem dX1_spreadFrom_104 : decode cX1_spreadFrom 104 = .ok (.invokevirtual 288, 3) := by decide +kernel
theorem dX1_spreadFrom_107 : decode cX1_spreadFrom 107 = .ok (.istore_n 2, 1) := by decide +kernel
theorem dX1_spreadFrom_108 : decode cX1_spreadFrom 108 = .ok (.iinc 5 1, 3) := by decide +kernel
theorem dX1_spreadFrom_111 : decode cX1_spreadFrom 111 = .ok (.goto (-68), 3) := by decide +kernel
theorem dX1_spreadFrom_114 : decode cX1_spreadFrom 114 = .ok (.iinc 3 1, 3) := by decide +kernel
theorem dX1_spreadFrom_117 : decode cX1_spreadFrom 117 = .ok (.goto (-99), 3) := by decide +kernel
theorem dX1_spreadFrom_120 : decode cX1_spreadFrom 120 = .ok (.return_, 1) := by decide +kernel
theorem dX1_enqueue_0 : decode cX1_enqueue 0 = .ok (.iload_n 1, 1) := by decide +kernel
theorem dX1_enqueue_1 : decode cX1_enqueue 1 = .ok (.ifCond .lt 25, 3) := by decide +kernel
theorem dX1_enqueue_4 : decode cX1_enqueue 4 = .ok (.iload_n 1, 1) := by decide +kernel
theorem dX1_enqueue_5 : decode cX1_enqueue 5 = .ok (.aload_n 0, 1) := by decide +kernel
theorem dX1_enqueue_6 : decode cX1_enqueue 6 = .ok (.getfield 25, 3) := by decide +kernel
theorem dX1_enqueue_9 : decode cX1_enqueue 9 = .ok (.arraylength, 1) := by decide +kernel
theorem dX1_enqueue_10 : decode cX1_enqueue 10 = .ok (.if_icmp .ge 16, 3) := by decide +kernel
theorem dX1_enqueue_13 : decode cX1_enqueue 13 = .ok (.iload_n 3, 1) := by decide +kernel
theorem dX1_enqueue_14 : decode cX1_enqueue 14 = .ok (.ifCond .lt 12, 3) := by decide +kernel
theorem dX1_enqueue_17 : decode cX1_enqueue 17 = .ok (.iload_n 3, 1) := by decide +kernel
theorem dX1_enqueue_18 : decode cX1_enqueue 18 = .ok (.aload_n 0, 1) := by decide +kernel
theorem dX1_enqueue_19 : decode cX1_enqueue 19 = .ok (.getfield 28, 3) := by decide +kernel
theorem dX1_enqueue_22 : decode cX1_enqueue 22 = .ok (.arraylength, 1) := by decide +kernel
theorem dX1_enqueue_23 : decode cX1_enqueue 23 = .ok (.if_icmp .lt 5, 3) := by decide +kernel
theorem dX1_enqueue_26 : decode cX1_enqueue 26 = .ok (.iload_n 3, 1) := by decide +kernel
theorem dX1_enqueue_27 : decode cX1_enqueue 27 = .ok (.ireturn, 1) := by decide +kernel
theorem dX1_enqueue_28 : decode cX1_enqueue 28 = .ok (.aload_n 0, 1) := by decide +kernel
theorem dX1_enqueue_29 : decode cX1_enqueue 29 = .ok (.getfield 25, 3) := by decide +kernel
theorem dX1_enqueue_32 : decode cX1_enqueue 32 = .ok (.iload_n 1, 1) := by decide +kernel
theorem dX1_enqueue_33 : decode cX1_enqueue 33 = .ok (.iload_n 2, 1) := by decide +kernel
theorem dX1_enqueue_34 : decode cX1_enqueue 34 = .ok (.iastore, 1) := by decide +kernel
theorem dX1_enqueue_35 : decode cX1_enqueue 35 = .ok (.aload_n 0, 1) := by decide +kernel
theorem dX1_enqueue_36 : decode cX1_enqueue 36 = .ok (.getfield 28, 3) := by decide +kernel
theorem dX1_enqueue_39 : decode cX1_enqueue 39 = .ok (.iload_n 3, 1) := by decide +kernel
theorem dX1_enqueue_40 : decode cX1_enqueue 40 = .ok (.iload_n 1, 1) := by decide +kernel
theorem dX1_enqueue_41 : decode cX1_enqueue 41 = .ok (.iastore, 1) := by decide +kernel
theorem dX1_enqueue_42 : decode cX1_enqueue 42 = .ok (.iload_n 3, 1) := by decide +kernel
theorem dX1_enqueue_43 : decode cX1_enqueue 43 = .ok (.iconst 1, 1) := by decide +kernel
theorem dX1_enqueue_44 : decode cX1_enqueue 44 = .ok (.iadd, 1) := by decide +kernel
theorem dX1_enqueue_45 : decode cX1_enqueue 45 = .ok (.ireturn, 1) := by decide +kernel
theorem dX2_init_0 : decode cX2_init 0 = .ok (.aload_n 0, 1) := by decide +kernel
theorem dX2_init_1 : decode cX2_init 1 = .ok (.invokespecial 1, 3) := by decide +kernel
theorem dX2_init_4 : decode cX2_init 4 = .ok (.aload_n 0, 1) := by decide +kernel
theorem dX2_init_5 : decode cX2_init 5 = .ok (.sipush 144, 3) := by decide +kernel
theorem dX2_init_8 : decode cX2_init 8 = .ok (.newarray .int, 2) := by decide +kernel
theorem dX2_init_10 : decode cX2_init 10 = .ok (.putfield 9, 3) := by decide +kernel
theorem dX2_init_13 : decode cX2_init 13 = .ok (.aload_n 0, 1) := by decide +kernel
theorem dX2_init_14 : decode cX2_init 14 = .ok (.iconst 4, 1) := by decide +kernel
theorem dX2_init_15 : decode cX2_init 15 = .ok (.newarray .int, 2) := by decide +kernel
theorem dX2_init_17 : decode cX2_init 17 = .ok (.putfield 13, 3) := by decide +kernel
theorem dX2_init_20 : decode cX2_init 20 = .ok (.aload_n 0, 1) := by decide +kernel
theorem dX2_init_21 : decode cX2_init 21 = .ok (.iconst 4, 1) := by decide +kernel
theorem dX2_init_22 : decode cX2_init 22 = .ok (.newarray .int, 2) := by decide +kernel
theorem dX2_init_24 : decode cX2_init 24 = .ok (.putfield 16, 3) := by decide +kernel
theorem dX2_init_27 : decode cX2_init 27 = .ok (.aload_n 0, 1) := by decide +kernel
theorem dX2_init_28 : decode cX2_init 28 = .ok (.bipush 6, 2) := by decide +kernel
theorem dX2_init_30 : decode cX2_init 30 = .ok (.newarray .int, 2) := by decide +kernel
theorem dX2_init_32 : decode cX2_init 32 = .ok (.putfield 19, 3) := by decide +kernel
theorem dX2_init_35 : decode cX2_init 35 = .ok (.aload_n 0, 1) := by decide +kernel
theorem dX2_init_36 : decode cX2_init 36 = .ok (.sipush 144, 3) := by decide +kernel
theorem dX2_init_39 : decode cX2_init 39 = .ok (.newarray .int, 2) := by decide +kernel
theorem dX2_init_41 : decode cX2_init 41 = .ok (.putfield 22, 3) := by decide +kernel
theorem dX2_init_44 : decode cX2_init 44 = .ok (.aload_n 0, 1) := by decide +kernel
theorem dX2_init_45 : decode cX2_init 45 = .ok (.sipush 144, 3) := by decide +kernel
theorem dX2_init_48 : decode cX2_init 48 = .ok (.newarray .int, 2) := by decide +kernel
theorem dX2_init_50 : decode cX2_init 50 = .ok (.putfield 25, 3) := by decide +kernel
theorem dX2_init_53 : decode cX2_init 53 = .ok (.aload_n 0, 1) := by decide +kernel
theorem dX2_init_54 : decode cX2_init 54 = .ok (.sipush 144, 3) := by decide +kernel
theorem dX2_init_57 : decode cX2_init 57 = .ok (.newarray .int, 2) := by decide +kernel
theorem dX2_init_59 : decode cX2_init 59 = .ok (.putfield 28, 3) := by decide +kernel
theorem dX2_init_62 : decode cX2_init 62 = .ok (.aload_n 0, 1) := by decide +kernel
theorem dX2_init_63 : decode cX2_init 63 = .ok (.sipush 144, 3) := by decide +kernel
theorem dX2_init_66 : decode cX2_init 66 = .ok (.newarray .int, 2) := by decide +kernel
theorem dX2_init_68 : decode cX2_init 68 = .ok (.putfield 31, 3) := by decide +kernel
theorem dX2_init_71 : decode cX2_init 71 = .ok (.return_, 1) := by decide +kernel
theorem dX2_thrown_0 : decode cX2_thrown 0 = .ok (.aload_n 0, 1) := by decide +kernel
theorem dX2_thrown_1 : decode cX2_thrown 1 = .ok (.getfield 34, 3) := by decide +kernel
theorem dX2_thrown_4 : decode cX2_thrown 4 = .ok (.ireturn, 1) := by decide +kernel
theorem dX2_no_0 : decode cX2_no 0 = .ok (.aload_n 0, 1) := by decide +kernel
theorem dX2_no_1 : decode cX2_no 1 = .ok (.iload_n 1, 1) := by decide +kernel
theorem dX2_no_2 : decode cX2_no 2 = .ok (.putfield 34, 3) := by decide +kernel
theorem dX2_no_5 : decode cX2_no 5 = .ok (.iconst 0, 1) := by decide +kernel
theorem dX2_no_6 : decode cX2_no 6 = .ok (.ireturn, 1) := by decide +kernel
theorem dX2_isIn_0 : decode cX2_isIn 0 = .ok (.iload_n 0, 1) := by decide +kernel
theorem dX2_isIn_1 : decode cX2_isIn 1 = .ok (.iload_n 1, 1) := by decide +kernel
theorem dX2_isIn_2 : decode cX2_isIn 2 = .ok (.if_icmp .lt 12, 3) := by decide +kernel
theorem dX2_isIn_5 : decode cX2_isIn 5 = .ok (.iload_n 0, 1) := by decide +kernel
theorem dX2_isIn_6 : decode cX2_isIn 6 = .ok (.iload_n 2, 1) := by decide +kernel
theorem dX2_isIn_7 : decode cX2_isIn 7 = .ok (.if_icmp .gt 7, 3) := by decide +kernel
theorem dX2_isIn_10 : decode cX2_isIn 10 = .ok (.iconst 1, 1) := by decide +kernel
theorem dX2_isIn_11 : decode cX2_isIn 11 = .ok (.goto 4, 3) := by decide +kernel
theorem dX2_isIn_14 : decode cX2_isIn 14 = .ok (.iconst 0, 1) := by decide +kernel
theorem dX2_isIn_15 : decode cX2_isIn 15 = .ok (.ireturn, 1) := by decide +kernel
set_option maxRecDepth 20000 in
theorem ggX2_isCell_X2_isIn : GoodIn wsX2_isCell wsX2_isIn := goodIn_r _ [4] (by decide +kernel) (by decide +kernel)
set_option maxRecDepth 20000 in
theorem gX2_isCell_X2_isIn : GoodIn wsX2_isCell (va_wsS RX2 38 yX2_isIn wsX2_isIn) := goodIn_app (goodIn_of _ (by decide +kernel)) ggX2_isCell_X2_isIn
theorem dX2_isCell_0 : decode cX2_isCell 0 = .ok (.iload_n 0, 1) := by decide +kernel
