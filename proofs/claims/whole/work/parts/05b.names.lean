theorem dX0_init_0 : decode cX0_init 0 = .ok (.aload_n 0, 1) := by decide +kernel
theorem dX0_init_1 : decode cX0_init 1 = .ok (.invokespecial 1, 3) := by decide +kernel
theorem dX0_init_4 : decode cX0_init 4 = .ok (.return_, 1) := by decide +kernel
set_option maxRecDepth 20000 in
theorem ggX0_begin_X1_columnOf : GoodIn wsX0_begin wsX1_columnOf := goodIn_r _ [16] (by decide +kernel) (by decide +kernel)
set_option maxRecDepth 20000 in
theorem gX0_begin_X1_columnOf_n7 : GoodIn wsX0_begin (wsX1_columnOf) := ggX0_begin_X1_columnOf
set_option maxRecDepth 20000 in
theorem ggX0_begin_X1_rowOf : GoodIn wsX0_begin wsX1_rowOf := goodIn_r _ [18] (by decide +kernel) (by decide +kernel)
set_option maxRecDepth 20000 in
theorem gX0_begin_X1_rowOf_n19 : GoodIn wsX0_begin (wsX1_rowOf) := ggX0_begin_X1_rowOf
set_option maxRecDepth 20000 in
theorem ggX0_begin_J6_signum_0f7a4 : GoodIn wsX0_begin wsJ6_signum_0f7a4 := goodIn_r _ [22] (by decide +kernel) (by decide +kernel)
set_option maxRecDepth 20000 in
theorem gX0_begin_J6_signum_0f7a4 : GoodIn wsX0_begin (va_wsS RX0 25 yJ6_signum_0f7a4 wsJ6_signum_0f7a4) := goodIn_app (goodIn_of _ (by decide +kernel)) ggX0_begin_J6_signum_0f7a4
theorem dX0_begin_0 : decode cX0_begin 0 = .ok (.aload_n 0, 1) := by decide +kernel
theorem dX0_begin_1 : decode cX0_begin 1 = .ok (.iload_n 1, 1) := by decide +kernel
theorem dX0_begin_2 : decode cX0_begin 2 = .ok (.invokestatic 7, 3) := by decide +kernel
theorem dX0_begin_5 : decode cX0_begin 5 = .ok (.putfield 13, 3) := by decide +kernel
theorem dX0_begin_8 : decode cX0_begin 8 = .ok (.aload_n 0, 1) := by decide +kernel
theorem dX0_begin_9 : decode cX0_begin 9 = .ok (.iload_n 1, 1) := by decide +kernel
theorem dX0_begin_10 : decode cX0_begin 10 = .ok (.invokestatic 19, 3) := by decide +kernel
theorem dX0_begin_13 : decode cX0_begin 13 = .ok (.putfield 22, 3) := by decide +kernel
theorem dX0_begin_16 : decode cX0_begin 16 = .ok (.aload_n 0, 1) := by decide +kernel
theorem dX0_begin_17 : decode cX0_begin 17 = .ok (.iload_n 2, 1) := by decide +kernel
theorem dX0_begin_18 : decode cX0_begin 18 = .ok (.invokestatic 7, 3) := by decide +kernel
theorem dX0_begin_21 : decode cX0_begin 21 = .ok (.aload_n 0, 1) := by decide +kernel
theorem dX0_begin_22 : decode cX0_begin 22 = .ok (.getfield 13, 3) := by decide +kernel
theorem dX0_begin_25 : decode cX0_begin 25 = .ok (.isub, 1) := by decide +kernel
theorem dX0_begin_26 : decode cX0_begin 26 = .ok (.invokestatic 25, 3) := by decide +kernel
theorem dX0_begin_29 : decode cX0_begin 29 = .ok (.putfield 30, 3) := by decide +kernel
theorem dX0_begin_32 : decode cX0_begin 32 = .ok (.aload_n 0, 1) := by decide +kernel
theorem dX0_begin_33 : decode cX0_begin 33 = .ok (.iload_n 2, 1) := by decide +kernel
theorem dX0_begin_34 : decode cX0_begin 34 = .ok (.invokestatic 19, 3) := by decide +kernel
theorem dX0_begin_37 : decode cX0_begin 37 = .ok (.aload_n 0, 1) := by decide +kernel
theorem dX0_begin_38 : decode cX0_begin 38 = .ok (.getfield 22, 3) := by decide +kernel
theorem dX0_begin_41 : decode cX0_begin 41 = .ok (.isub, 1) := by decide +kernel
theorem dX0_begin_42 : decode cX0_begin 42 = .ok (.invokestatic 25, 3) := by decide +kernel
theorem dX0_begin_45 : decode cX0_begin 45 = .ok (.putfield 33, 3) := by decide +kernel
theorem dX0_begin_48 : decode cX0_begin 48 = .ok (.aload_n 0, 1) := by decide +kernel
theorem dX0_begin_49 : decode cX0_begin 49 = .ok (.iload_n 2, 1) := by decide +kernel
theorem dX0_begin_50 : decode cX0_begin 50 = .ok (.invokestatic 7, 3) := by decide +kernel
theorem dX0_begin_53 : decode cX0_begin 53 = .ok (.aload_n 0, 1) := by decide +kernel
theorem dX0_begin_54 : decode cX0_begin 54 = .ok (.getfield 13, 3) := by decide +kernel
theorem dX0_begin_57 : decode cX0_begin 57 = .ok (.isub, 1) := by decide +kernel
theorem dX0_begin_58 : decode cX0_begin 58 = .ok (.invokestatic 36, 3) := by decide +kernel
theorem dX0_begin_61 : decode cX0_begin 61 = .ok (.putfield 41, 3) := by decide +kernel
theorem dX0_begin_64 : decode cX0_begin 64 = .ok (.aload_n 0, 1) := by decide +kernel
theorem dX0_begin_65 : decode cX0_begin 65 = .ok (.iload_n 2, 1) := by decide +kernel
theorem dX0_begin_66 : decode cX0_begin 66 = .ok (.invokestatic 19, 3) := by decide +kernel
theorem dX0_begin_69 : decode cX0_begin 69 = .ok (.aload_n 0, 1) := by decide +kernel
theorem dX0_begin_70 : decode cX0_begin 70 = .ok (.getfield 22, 3) := by decide +kernel
theorem dX0_begin_73 : decode cX0_begin 73 = .ok (.isub, 1) := by decide +kernel
theorem dX0_begin_74 : decode cX0_begin 74 = .ok (.invokestatic 36, 3) := by decide +kernel
theorem dX0_begin_77 : decode cX0_begin 77 = .ok (.putfield 44, 3) := by decide +kernel
theorem dX0_begin_80 : decode cX0_begin 80 = .ok (.aload_n 0, 1) := by decide +kernel
theorem dX0_begin_81 : decode cX0_begin 81 = .ok (.iconst 0, 1) := by decide +kernel
theorem dX0_begin_82 : decode cX0_begin 82 = .ok (.putfield 47, 3) := by decide +kernel
theorem dX0_begin_85 : decode cX0_begin 85 = .ok (.aload_n 0, 1) := by decide +kernel
theorem dX0_begin_86 : decode cX0_begin 86 = .ok (.iconst 0, 1) := by decide +kernel
theorem dX0_begin_87 : decode cX0_begin 87 = .ok (.putfield 50, 3) := by decide +kernel
theorem dX0_begin_90 : decode cX0_begin 90 = .ok (.aload_n 0, 1) := by decide +kernel
theorem dX0_begin_91 : decode cX0_begin 91 = .ok (.iconst 0, 1) := by decide +kernel
theorem dX0_begin_92 : decode cX0_begin 92 = .ok (.putfield 53, 3) := by decide +kernel
theorem dX0_begin_95 : decode cX0_begin 95 = .ok (.return_, 1) := by decide +kernel
theorem dX0_goesOn_0 : decode cX0_goesOn 0 = .ok (.aload_n 0, 1) := by decide +kernel
theorem dX0_goesOn_1 : decode cX0_goesOn 1 = .ok (.getfield 47, 3) := by decide +kernel
theorem dX0_goesOn_4 : decode cX0_goesOn 4 = .ok (.aload_n 0, 1) := by decide +kernel
theorem dX0_goesOn_5 : decode cX0_goesOn 5 = .ok (.getfield 41, 3) := by decide +kernel
theorem dX0_goesOn_8 : decode cX0_goesOn 8 = .ok (.if_icmp .lt 14, 3) := by decide +kernel
theorem dX0_goesOn_11 : decode cX0_goesOn 11 = .ok (.aload_n 0, 1) := by decide +kernel
theorem dX0_goesOn_12 : decode cX0_goesOn 12 = .ok (.getfield 50, 3) := by decide +kernel
theorem dX0_goesOn_15 : decode cX0_goesOn 15 = .ok (.aload_n 0, 1) := by decide +kernel
theorem dX0_goesOn_16 : decode cX0_goesOn 16 = .ok (.getfield 44, 3) := by decide +kernel
theorem dX0_goesOn_19 : decode cX0_goesOn 19 = .ok (.if_icmp .ge 7, 3) := by decide +kernel
theorem dX0_goesOn_22 : decode cX0_goesOn 22 = .ok (.iconst 1, 1) := by decide +kernel
theorem dX0_goesOn_23 : decode cX0_goesOn 23 = .ok (.goto 4, 3) := by decide +kernel
theorem dX0_goesOn_26 : decode cX0_goesOn 26 = .ok (.iconst 0, 1) := by decide +kernel
theorem dX0_goesOn_27 : decode cX0_goesOn 27 = .ok (.ireturn, 1) := by decide +kernel
theorem dX0_step_0 : decode cX0_step 0 = .ok (.iconst 1, 1) := by decide +kernel
theorem dX0_step_1 : decode cX0_step 1 = .ok (.iconst 2, 1) := by decide +kernel
theorem dX0_step_2 : decode cX0_step 2 = .ok (.aload_n 0, 1) := by decide +kernel
theorem dX0_step_3 : decode cX0_step 3 = .ok (.getfield 47, 3) := by decide +kernel
theorem dX0_step_6 : decode cX0_step 6 = .ok (.imul, 1) := by decide +kernel
theorem dX0_step_7 : decode cX0_step 7 = .ok (.iadd, 1) := by decide +kernel
theorem dX0_step_8 : decode cX0_step 8 = .ok (.aload_n 0, 1) := by decide +kernel
theorem dX0_step_9 : decode cX0_step 9 = .ok (.getfield 44, 3) := by decide +kernel
theorem dX0_step_12 : decode cX0_step 12 = .ok (.imul, 1) := by decide +kernel
theorem dX0_step_13 : decode cX0_step 13 = .ok (.istore_n 1, 1) := by decide +kernel
theorem dX0_step_14 : decode cX0_step 14 = .ok (.iconst 1, 1) := by decide +kernel
theorem dX0_step_15 : decode cX0_step 15 = .ok (.iconst 2, 1) := by decide +kernel
theorem dX0_step_16 : decode cX0_step 16 = .ok (.aload_n 0, 1) := by decide +kernel
theorem dX0_step_17 : decode cX0_step 17 = .ok (.getfield 50, 3) := by decide +kernel
theorem dX0_step_20 : decode cX0_step 20 = .ok (.imul, 1) := by decide +kernel
theorem dX0_step_21 : decode cX0_step 21 = .ok (.iadd, 1) := by decide +kernel
theorem dX0_step_22 : decode cX0_step 22 = .ok (.aload_n 0, 1) := by decide +kernel
theorem dX0_step_23 : decode cX0_step 23 = .ok (.getfield 41, 3) := by decide +kernel
theorem dX0_step_26 : decode cX0_step 26 = .ok (.imul, 1) := by decide +kernel
theorem dX0_step_27 : decode cX0_step 27 = .ok (.istore_n 2, 1) := by decide +kernel
theorem dX0_step_28 : decode cX0_step 28 = .ok (.aload_n 0, 1) := by decide +kernel
theorem dX0_step_29 : decode cX0_step 29 = .ok (.iload_n 1, 1) := by decide +kernel
theorem dX0_step_30 : decode cX0_step 30 = .ok (.iload_n 2, 1) := by decide +kernel
theorem dX0_step_31 : decode cX0_step 31 = .ok (.if_icmp .ne 7, 3) := by decide +kernel
theorem dX0_step_34 : decode cX0_step 34 = .ok (.iconst 1, 1) := by decide +kernel
theorem dX0_step_35 : decode cX0_step 35 = .ok (.goto 4, 3) := by decide +kernel
theorem dX0_step_38 : decode cX0_step 38 = .ok (.iconst 0, 1) := by decide +kernel
theorem dX0_step_39 : decode cX0_step 39 = .ok (.putfield 53, 3) := by decide +kernel
theorem dX0_step_42 : decode cX0_step 42 = .ok (.iload_n 1, 1) := by decide +kernel
theorem dX0_step_43 : decode cX0_step 43 = .ok (.iload_n 2, 1) := by decide +kernel
theorem dX0_step_44 : decode cX0_step 44 = .ok (.if_icmp .gt 26, 3) := by decide +kernel
theorem dX0_step_47 : decode cX0_step 47 = .ok (.aload_n 0, 1) := by decide +kernel
theorem dX0_step_48 : decode cX0_step 48 = .ok (.dup, 1) := by decide +kernel
theorem dX0_step_49 : decode cX0_step 49 = .ok (.getfield 13, 3) := by decide +kernel
theorem dX0_step_52 : decode cX0_step 52 = .ok (.aload_n 0, 1) := by decide +kernel
theorem dX0_step_53 : decode cX0_step 53 = .ok (.getfield 30, 3) := by decide +kernel
theorem dX0_step_56 : decode cX0_step 56 = .ok (.iadd, 1) := by decide +kernel
theorem dX0_step_57 : decode cX0_step 57 = .ok (.putfield 13, 3) := by decide +kernel
theorem dX0_step_60 : decode cX0_step 60 = .ok (.aload_n 0, 1) := by decide +kernel
theorem dX0_step_61 : decode cX0_step 61 = .ok (.dup, 1) := by decide +kernel
theorem dX0_step_62 : decode cX0_step 62 = .ok (.getfield 47, 3) := by decide +kernel
theorem dX0_step_65 : decode cX0_step 65 = .ok (.iconst 1, 1) := by decide +kernel
theorem dX0_step_66 : decode cX0_step 66 = .ok (.iadd, 1) := by decide +kernel
theorem dX0_step_67 : decode cX0_step 67 = .ok (.putfield 47, 3) := by decide +kernel
theorem dX0_step_70 : decode cX0_step 70 = .ok (.iload_n 1, 1) := by decide +kernel
theorem dX0_step_71 : decode cX0_step 71 = .ok (.iload_n 2, 1) := by decide +kernel
theorem dX0_step_72 : decode cX0_step 72 = .ok (.if_icmp .lt 26, 3) := by decide +kernel
theorem dX0_step_75 : decode cX0_step 75 = .ok (.aload_n 0, 1) := by decide +kernel
theorem dX0_step_76 : decode cX0_step 76 = .ok (.dup, 1) := by decide +kernel
theorem dX0_step_77 : decode cX0_step 77 = .ok (.getfield 22, 3) := by decide +kernel
theorem dX0_step_80 : decode cX0_step 80 = .ok (.aload_n 0, 1) := by decide +kernel
theorem dX0_step_81 : decode cX0_step 81 = .ok (.getfield 33, 3) := by decide +kernel
theorem dX0_step_84 : decode cX0_step 84 = .ok (.iadd, 1) := by decide +kernel
theorem dX0_step_85 : decode cX0_step 85 = .ok (.putfield 22, 3) := by decide +kernel
theorem dX0_step_88 : decode cX0_step 88 = .ok (.aload_n 0, 1) := by decide +kernel
theorem dX0_step_89 : decode cX0_step 89 = .ok (.dup, 1) := by decide +kernel
theorem dX0_step_90 : decode cX0_step 90 = .ok (.getfield 50, 3) := by decide +kernel
theorem dX0_step_93 : decode cX0_step 93 = .ok (.iconst 1, 1) := by decide +kernel
theorem dX0_step_94 : decode cX0_step 94 = .ok (.iadd, 1) := by decide +kernel
theorem dX0_step_95 : decode cX0_step 95 = .ok (.putfield 50, 3) := by decide +kernel
theorem dX0_step_98 : decode cX0_step 98 = .ok (.return_, 1) := by decide +kernel
theorem dX0_wentThroughCorner_0 : decode cX0_wentThroughCorner 0 = .ok (.aload_n 0, 1) := by decide +kernel
theorem dX0_wentThroughCorner_1 : decode cX0_wentThroughCorner 1 = .ok (.getfield 53, 3) := by decide +kernel
theorem dX0_wentThroughCorner_4 : decode cX0_wentThroughCorner 4 = .ok (.ireturn, 1) := by decide +kernel
set_option maxRecDepth 20000 in
theorem ggX0_cell_X1_cellAt : GoodIn wsX0_cell wsX1_cellAt := goodIn_r _ [5] (by decide +kernel) (by decide +kernel)
set_option maxRecDepth 20000 in
theorem gX0_cell_X1_cellAt_n57 : GoodIn wsX0_cell (wsX1_cellAt) := ggX0_cell_X1_cellAt
theorem dX0_cell_0 : decode cX0_cell 0 = .ok (.aload_n 0, 1) := by decide +kernel
theorem dX0_cell_1 : decode cX0_cell 1 = .ok (.getfield 13, 3) := by decide +kernel
theorem dX0_cell_4 : decode cX0_cell 4 = .ok (.aload_n 0, 1) := by decide +kernel
theorem dX0_cell_5 : decode cX0_cell 5 = .ok (.getfield 22, 3) := by decide +kernel
theorem dX0_cell_8 : decode cX0_cell 8 = .ok (.invokestatic 57, 3) := by decide +kernel
theorem dX0_cell_11 : decode cX0_cell 11 = .ok (.ireturn, 1) := by decide +kernel
set_option maxRecDepth 20000 in
theorem ggX0_cornerByX_X1_cellAt : GoodIn wsX0_cornerByX wsX1_cellAt := goodIn_r _ [6] (by decide +kernel) (by decide +kernel)
set_option maxRecDepth 20000 in
theorem gX0_cornerByX_X1_cellAt_n57 : GoodIn wsX0_cornerByX (wsX1_cellAt) := ggX0_cornerByX_X1_cellAt
theorem dX0_cornerByX_0 : decode cX0_cornerByX 0 = .ok (.aload_n 0, 1) := by decide +kernel
theorem dX0_cornerByX_1 : decode cX0_cornerByX 1 = .ok (.getfield 13, 3) := by decide +kernel
theorem dX0_cornerByX_4 : decode cX0_cornerByX 4 = .ok (.aload_n 0, 1) := by decide +kernel
theorem dX0_cornerByX_5 : decode cX0_cornerByX 5 = .ok (.getfield 22, 3) := by decide +kernel
theorem dX0_cornerByX_8 : decode cX0_cornerByX 8 = .ok (.aload_n 0, 1) := by decide +kernel
theorem dX0_cornerByX_9 : decode cX0_cornerByX 9 = .ok (.getfield 33, 3) := by decide +kernel
theorem dX0_cornerByX_12 : decode cX0_cornerByX 12 = .ok (.isub, 1) := by decide +kernel
theorem dX0_cornerByX_13 : decode cX0_cornerByX 13 = .ok (.invokestatic 57, 3) := by decide +kernel
theorem dX0_cornerByX_16 : decode cX0_cornerByX 16 = .ok (.ireturn, 1) := by decide +kernel
set_option maxRecDepth 20000 in
theorem ggX0_cornerByY_X1_cellAt : GoodIn wsX0_cornerByY wsX1_cellAt := goodIn_r _ [6] (by decide +kernel) (by decide +kernel)
set_option maxRecDepth 20000 in
theorem gX0_cornerByY_X1_cellAt_n57 : GoodIn wsX0_cornerByY (wsX1_cellAt) := ggX0_cornerByY_X1_cellAt
theorem dX0_cornerByY_0 : decode cX0_cornerByY 0 = .ok (.aload_n 0, 1) := by decide +kernel
theorem dX0_cornerByY_1 : decode cX0_cornerByY 1 = .ok (.getfield 13, 3) := by decide +kernel
theorem dX0_cornerByY_4 : decode cX0_cornerByY 4 = .ok (.aload_n 0, 1) := by decide +kernel
theorem dX0_cornerByY_5 : decode cX0_cornerByY 5 = .ok (.getfield 30, 3) := by decide +kernel
theorem dX0_cornerByY_8 : decode cX0_cornerByY 8 = .ok (.isub, 1) := by decide +kernel
theorem dX0_cornerByY_9 : decode cX0_cornerByY 9 = .ok (.aload_n 0, 1) := by decide +kernel
theorem dX0_cornerByY_10 : decode cX0_cornerByY 10 = .ok (.getfield 22, 3) := by decide +kernel
theorem dX0_cornerByY_13 : decode cX0_cornerByY 13 = .ok (.invokestatic 57, 3) := by decide +kernel
theorem dX0_cornerByY_16 : decode cX0_cornerByY 16 = .ok (.ireturn, 1) := by decide +kernel
set_option maxRecDepth 20000 in
theorem ggX1_init_X0_init : GoodIn wsX1_init wsX0_init := goodIn_r _ [17, 18, 2, 3] (by decide +kernel) (by decide +kernel)
set_option maxRecDepth 20000 in
theorem gX1_init_X0_init_n33 : GoodIn wsX1_init (wsX0_init) := ggX1_init_X0_init
theorem dX1_init_0 : decode cX1_init 0 = .ok (.aload_n 0, 1) := by decide +kernel
theorem dX1_init_1 : decode cX1_init 1 = .ok (.invokespecial 1, 3) := by decide +kernel
theorem dX1_init_4 : decode cX1_init 4 = .ok (.aload_n 0, 1) := by decide +kernel
theorem dX1_init_5 : decode cX1_init 5 = .ok (.sipush 144, 3) := by decide +kernel
theorem dX1_init_8 : decode cX1_init 8 = .ok (.newarray .int, 2) := by decide +kernel
theorem dX1_init_10 : decode cX1_init 10 = .ok (.putfield 9, 3) := by decide +kernel
theorem dX1_init_13 : decode cX1_init 13 = .ok (.aload_n 0, 1) := by decide +kernel
theorem dX1_init_14 : decode cX1_init 14 = .ok (.iconst 4, 1) := by decide +kernel
theorem dX1_init_15 : decode cX1_init 15 = .ok (.newarray .int, 2) := by decide +kernel
theorem dX1_init_17 : decode cX1_init 17 = .ok (.putfield 13, 3) := by decide +kernel
theorem dX1_init_20 : decode cX1_init 20 = .ok (.aload_n 0, 1) := by decide +kernel
theorem dX1_init_21 : decode cX1_init 21 = .ok (.iconst 4, 1) := by decide +kernel
theorem dX1_init_22 : decode cX1_init 22 = .ok (.newarray .int, 2) := by decide +kernel
theorem dX1_init_24 : decode cX1_init 24 = .ok (.putfield 16, 3) := by decide +kernel
theorem dX1_init_27 : decode cX1_init 27 = .ok (.aload_n 0, 1) := by decide +kernel
theorem dX1_init_28 : decode cX1_init 28 = .ok (.bipush 6, 2) := by decide +kernel
theorem dX1_init_30 : decode cX1_init 30 = .ok (.newarray .int, 2) := by decide +kernel
theorem dX1_init_32 : decode cX1_init 32 = .ok (.putfield 19, 3) := by decide +kernel
theorem dX1_init_35 : decode cX1_init 35 = .ok (.aload_n 0, 1) := by decide +kernel
theorem dX1_init_36 : decode cX1_init 36 = .ok (.sipush 144, 3) := by decide +kernel
theorem dX1_init_39 : decode cX1_init 39 = .ok (.newarray .int, 2) := by decide +kernel
theorem dX1_init_41 : decode cX1_init 41 = .ok (.putfield 22, 3) := by decide +kernel
theorem dX1_init_44 : decode cX1_init 44 = .ok (.aload_n 0, 1) := by decide +kernel
theorem dX1_init_45 : decode cX1_init 45 = .ok (.sipush 144, 3) := by decide +kernel
theorem dX1_init_48 : decode cX1_init 48 = .ok (.newarray .int, 2) := by decide +kernel
theorem dX1_init_50 : decode cX1_init 50 = .ok (.putfield 25, 3) := by decide +kernel
theorem dX1_init_53 : decode cX1_init 53 = .ok (.aload_n 0, 1) := by decide +kernel
theorem dX1_init_54 : decode cX1_init 54 = .ok (.sipush 144, 3) := by decide +kernel
theorem dX1_init_57 : decode cX1_init 57 = .ok (.newarray .int, 2) := by decide +kernel
theorem dX1_init_59 : decode cX1_init 59 = .ok (.putfield 28, 3) := by decide +kernel
theorem dX1_init_62 : decode cX1_init 62 = .ok (.aload_n 0, 1) := by decide +kernel
theorem dX1_init_63 : decode cX1_init 63 = .ok (.new 31, 3) := by decide +kernel
theorem dX1_init_66 : decode cX1_init 66 = .ok (.dup, 1) := by decide +kernel
theorem dX1_init_67 : decode cX1_init 67 = .ok (.invokespecial 33, 3) := by decide +kernel
theorem dX1_init_70 : decode cX1_init 70 = .ok (.putfield 34, 3) := by decide +kernel
theorem dX1_init_73 : decode cX1_init 73 = .ok (.return_, 1) := by decide +kernel
set_option maxRecDepth 20000 in
theorem ggX1_set_X1_requirePlace : GoodIn wsX1_set wsX1_requirePlace := goodIn_ca (goodIn_r _ [4, 5, 6] (by decide +kernel) (by decide +kernel)) (goodIn_sub (fun _ h => List.mem_cons_of_mem _ (List.mem_append_left _ (List.mem_append_right _ h))) (by decide +kernel))
set_option maxRecDepth 20000 in
theorem gX1_set_X1_requirePlace : GoodIn wsX1_set (va_wsS RX1 38 yX1_requirePlace wsX1_requirePlace) := goodIn_app (goodIn_of _ (by decide +kernel)) ggX1_set_X1_requirePlace
set_option maxRecDepth 20000 in
theorem ggX1_set_X1_requireKind : GoodIn wsX1_set wsX1_requireKind := goodIn_ca (goodIn_r _ [9, 10, 11] (by decide +kernel) (by decide +kernel)) (goodIn_sub (fun _ h => List.mem_cons_of_mem _ (List.mem_append_right _ h)) (by decide +kernel))
set_option maxRecDepth 20000 in
theorem gX1_set_X1_requireKind : GoodIn wsX1_set (va_wsS RX1 42 yX1_requireKind wsX1_requireKind) := goodIn_app (goodIn_of _ (by decide +kernel)) ggX1_set_X1_requireKind
set_option maxRecDepth 20000 in
theorem ggX1_set_X1_cellAt : GoodIn wsX1_set wsX1_cellAt := goodIn_r _ [14] (by decide +kernel) (by decide +kernel)
set_option maxRecDepth 20000 in
theorem gX1_set_X1_cellAt : GoodIn wsX1_set (va_wsS RX1 46 yX1_cellAt wsX1_cellAt) := goodIn_app (goodIn_of _ (by decide +kernel)) ggX1_set_X1_cellAt
set_option maxRecDepth 20000 in
theorem ggX1_set_X1_kindOf : GoodIn wsX1_set wsX1_kindOf := goodIn_r _ [18, 19, 109, 110, 111, 112, 113, 114, 115, 116, 117, 118, 119] (by decide +kernel) (by decide +kernel)
set_option maxRecDepth 20000 in
theorem gX1_set_X1_kindOf : GoodIn wsX1_set (wsV RX1 50 RX1 yX1_kindOf wsX1_kindOf) := goodIn_app (goodIn_of _ (by decide +kernel)) ggX1_set_X1_kindOf
set_option maxRecDepth 20000 in
theorem ggX1_set_X1_putKind : GoodIn wsX1_set wsX1_putKind := goodIn_r _ [23, 19, 109, 110, 111, 112, 113, 114, 115, 116, 117, 118, 119] (by decide +kernel) (by decide +kernel)
set_option maxRecDepth 20000 in
theorem gX1_set_X1_putKind : GoodIn wsX1_set (wsV RX1 54 RX1 yX1_putKind wsX1_putKind) := goodIn_app (goodIn_of _ (by decide +kernel)) ggX1_set_X1_putKind
set_option maxRecDepth 20000 in
theorem ggX1_set_X1_shineAll : GoodIn wsX1_set wsX1_shineAll := goodIn_r _ [27, 28, 29, 30, 31, 3, 32, 33, 34, 35, 36, 37, 38, 39, 40, 41, 42, 43, 44, 45, 46, 47, 48, 49, 50, 51, 52, 53, 54, 55, 56, 57, 58, 59, 60, 61, 62, 63, 64, 65, 66, 67, 68, 69, 70, 71, 72, 73, 74, 75, 76, 77, 78, 79, 80, 81, 82, 83, 84, 85, 86, 87, 88, 89, 90, 91, 92, 93, 94, 95, 96, 13, 14, 97, 98, 99, 100, 15, 16, 17, 18, 19, 101, 102, 103, 104, 105, 106, 107, 108, 109, 110, 111, 112, 113, 114, 115, 116, 117, 118, 119, 120, 121, 122, 123, 124, 125, 126, 127, 128] (by decide +kernel) (by decide +kernel)
set_option maxRecDepth 20000 in
theorem gX1_set_X1_shineAll : GoodIn wsX1_set (wsV RX1 57 RX1 yX1_shineAll wsX1_shineAll) := goodIn_app (goodIn_of _ (by decide +kernel)) ggX1_set_X1_shineAll
theorem dX1_set_0 : decode cX1_set 0 = .ok (.iload_n 1, 1) := by decide +kernel
theorem dX1_set_1 : decode cX1_set 1 = .ok (.iload_n 2, 1) := by decide +kernel
theorem dX1_set_2 : decode cX1_set 2 = .ok (.invokestatic 38, 3) := by decide +kernel
theorem dX1_set_5 : decode cX1_set 5 = .ok (.iload_n 3, 1) := by decide +kernel
theorem dX1_set_6 : decode cX1_set 6 = .ok (.invokestatic 42, 3) := by decide +kernel
theorem dX1_set_9 : decode cX1_set 9 = .ok (.iload_n 1, 1) := by decide +kernel
theorem dX1_set_10 : decode cX1_set 10 = .ok (.iload_n 2, 1) := by decide +kernel
theorem dX1_set_11 : decode cX1_set 11 = .ok (.invokestatic 46, 3) := by decide +kernel
theorem dX1_set_14 : decode cX1_set 14 = .ok (.istore 4, 2) := by decide +kernel
theorem dX1_set_16 : decode cX1_set 16 = .ok (.aload_n 0, 1) := by decide +kernel
theorem dX1_set_17 : decode cX1_set 17 = .ok (.iload 4, 2) := by decide +kernel
theorem dX1_set_19 : decode cX1_set 19 = .ok (.invokevirtual 50, 3) := by decide +kernel
theorem dX1_set_22 : decode cX1_set 22 = .ok (.istore 5, 2) := by decide +kernel
theorem dX1_set_24 : decode cX1_set 24 = .ok (.aload_n 0, 1) := by decide +kernel
theorem dX1_set_25 : decode cX1_set 25 = .ok (.iload 4, 2) := by decide +kernel
theorem dX1_set_27 : decode cX1_set 27 = .ok (.iload_n 3, 1) := by decide +kernel
theorem dX1_set_28 : decode cX1_set 28 = .ok (.invokevirtual 54, 3) := by decide +kernel
theorem dX1_set_31 : decode cX1_set 31 = .ok (.aload_n 0, 1) := by decide +kernel
theorem dX1_set_32 : decode cX1_set 32 = .ok (.invokevirtual 57, 3) := by decide +kernel
theorem dX1_set_35 : decode cX1_set 35 = .ok (.iload 5, 2) := by decide +kernel
theorem dX1_set_37 : decode cX1_set 37 = .ok (.ireturn, 1) := by decide +kernel
set_option maxRecDepth 20000 in
theorem ggX1_lamp_X1_requirePlace : GoodIn wsX1_lamp wsX1_requirePlace := goodIn_ca (goodIn_r _ [9, 10, 11] (by decide +kernel) (by decide +kernel)) (goodIn_sub (fun _ h => List.mem_cons_of_mem _ (List.mem_append_left _ (List.mem_append_right _ h))) (by decide +kernel))
set_option maxRecDepth 20000 in
theorem gX1_lamp_X1_requirePlace : GoodIn wsX1_lamp (va_wsS RX1 38 yX1_requirePlace wsX1_requirePlace) := goodIn_app (goodIn_of _ (by decide +kernel)) ggX1_lamp_X1_requirePlace
set_option maxRecDepth 20000 in
theorem ggX1_lamp_X1_requireReach : GoodIn wsX1_lamp wsX1_requireReach := goodIn_ca (goodIn_r _ [14, 15, 16] (by decide +kernel) (by decide +kernel)) (goodIn_sub (fun _ h => List.mem_cons_of_mem _ (List.mem_append_right _ h)) (by decide +kernel))
set_option maxRecDepth 20000 in
theorem gX1_lamp_X1_requireReach : GoodIn wsX1_lamp (va_wsS RX1 60 yX1_requireReach wsX1_requireReach) := goodIn_app (goodIn_of _ (by decide +kernel)) ggX1_lamp_X1_requireReach
set_option maxRecDepth 20000 in
theorem ggX1_lamp_X1_cellAt : GoodIn wsX1_lamp wsX1_cellAt := goodIn_r _ [19] (by decide +kernel) (by decide +kernel)
set_option maxRecDepth 20000 in
theorem gX1_lamp_X1_cellAt : GoodIn wsX1_lamp (va_wsS RX1 46 yX1_cellAt wsX1_cellAt) := goodIn_app (goodIn_of _ (by decide +kernel)) ggX1_lamp_X1_cellAt
set_option maxRecDepth 20000 in
theorem ggX1_lamp_X1_isLampAt : GoodIn wsX1_lamp wsX1_isLampAt := goodIn_r _ [23, 3, 24, 25, 26, 8, 27, 4, 107, 108, 109, 110, 111, 112, 113, 114, 115, 116, 117] (by decide +kernel) (by decide +kernel)
set_option maxRecDepth 20000 in
theorem gX1_lamp_X1_isLampAt : GoodIn wsX1_lamp (wsV RX1 74 RX1 yX1_isLampAt wsX1_isLampAt) := goodIn_app (goodIn_of _ (by decide +kernel)) ggX1_lamp_X1_isLampAt
set_option maxRecDepth 20000 in
theorem ggX1_lamp_X1_shine : GoodIn wsX1_lamp wsX1_shine := goodIn_r _ [31, 32, 33, 34, 35, 8, 36, 24, 25, 26, 27, 4, 37, 38, 39, 40, 5, 41, 42, 43, 44, 45, 46, 47, 48, 49, 50, 51, 52, 53, 54, 55, 56, 57, 58, 59, 60, 61, 62, 63, 64, 65, 66, 67, 68, 69, 70, 71, 72, 73, 74, 75, 76, 77, 78, 79, 80, 81, 82, 83, 84, 85, 86, 87, 88, 89, 18, 19, 90, 91, 92, 93, 94, 95, 96, 97, 98, 99, 100, 101, 102, 103, 104, 105, 106, 107, 108, 109, 110, 111, 112, 113, 114, 115, 116, 117, 118, 119, 120, 121, 122, 123, 124, 125, 126] (by decide +kernel) (by decide +kernel)
set_option maxRecDepth 20000 in
theorem gX1_lamp_X1_shine : GoodIn wsX1_lamp (wsV RX1 80 RX1 yX1_shine wsX1_shine) := goodIn_app (goodIn_of _ (by decide +kernel)) ggX1_lamp_X1_shine
theorem dX1_lamp_0 : decode cX1_lamp 0 = .ok (.iload_n 1, 1) := by decide +kernel
theorem dX1_lamp_1 : decode cX1_lamp 1 = .ok (.iload_n 2, 1) := by decide +kernel
theorem dX1_lamp_2 : decode cX1_lamp 2 = .ok (.invokestatic 38, 3) := by decide +kernel
theorem dX1_lamp_5 : decode cX1_lamp 5 = .ok (.iload_n 3, 1) := by decide +kernel
theorem dX1_lamp_6 : decode cX1_lamp 6 = .ok (.invokestatic 60, 3) := by decide +kernel
theorem dX1_lamp_9 : decode cX1_lamp 9 = .ok (.iload_n 1, 1) := by decide +kernel
theorem dX1_lamp_10 : decode cX1_lamp 10 = .ok (.iload_n 2, 1) := by decide +kernel
theorem dX1_lamp_11 : decode cX1_lamp 11 = .ok (.invokestatic 46, 3) := by decide +kernel
theorem dX1_lamp_14 : decode cX1_lamp 14 = .ok (.istore 4, 2) := by decide +kernel
theorem dX1_lamp_16 : decode cX1_lamp 16 = .ok (.aload_n 0, 1) := by decide +kernel
theorem dX1_lamp_17 : decode cX1_lamp 17 = .ok (.getfield 63, 3) := by decide +kernel
theorem dX1_lamp_20 : decode cX1_lamp 20 = .ok (.istore 5, 2) := by decide +kernel
theorem dX1_lamp_22 : decode cX1_lamp 22 = .ok (.iload 5, 2) := by decide +kernel
theorem dX1_lamp_24 : decode cX1_lamp 24 = .ok (.ifCond .lt 23, 3) := by decide +kernel
theorem dX1_lamp_27 : decode cX1_lamp 27 = .ok (.iload 5, 2) := by decide +kernel
theorem dX1_lamp_29 : decode cX1_lamp 29 = .ok (.aload_n 0, 1) := by decide +kernel
theorem dX1_lamp_30 : decode cX1_lamp 30 = .ok (.getfield 13, 3) := by decide +kernel
theorem dX1_lamp_33 : decode cX1_lamp 33 = .ok (.arraylength, 1) := by decide +kernel
theorem dX1_lamp_34 : decode cX1_lamp 34 = .ok (.if_icmp .ge 13, 3) := by decide +kernel
theorem dX1_lamp_37 : decode cX1_lamp 37 = .ok (.iload 5, 2) := by decide +kernel
theorem dX1_lamp_39 : decode cX1_lamp 39 = .ok (.aload_n 0, 1) := by decide +kernel
theorem dX1_lamp_40 : decode cX1_lamp 40 = .ok (.getfield 16, 3) := by decide +kernel
theorem dX1_lamp_43 : decode cX1_lamp 43 = .ok (.arraylength, 1) := by decide +kernel
theorem dX1_lamp_44 : decode cX1_lamp 44 = .ok (.if_icmp .lt 13, 3) := by decide +kernel
theorem dX1_lamp_47 : decode cX1_lamp 47 = .ok (.new 67, 3) := by decide +kernel
theorem dX1_lamp_50 : decode cX1_lamp 50 = .ok (.dup, 1) := by decide +kernel
theorem dX1_lamp_51 : decode cX1_lamp 51 = .ok (.ldc 69, 2) := by decide +kernel
theorem dX1_lamp_53 : decode cX1_lamp 53 = .ok (.invokespecial 71, 3) := by decide +kernel
theorem dX1_lamp_56 : decode cX1_lamp 56 = .ok (.athrow, 1) := by decide +kernel
theorem dX1_lamp_57 : decode cX1_lamp 57 = .ok (.aload_n 0, 1) := by decide +kernel
theorem dX1_lamp_58 : decode cX1_lamp 58 = .ok (.iload 4, 2) := by decide +kernel
theorem dX1_lamp_60 : decode cX1_lamp 60 = .ok (.invokevirtual 74, 3) := by decide +kernel
theorem dX1_lamp_63 : decode cX1_lamp 63 = .ok (.ifCond .eq 13, 3) := by decide +kernel
theorem dX1_lamp_66 : decode cX1_lamp 66 = .ok (.new 67, 3) := by decide +kernel
theorem dX1_lamp_69 : decode cX1_lamp 69 = .ok (.dup, 1) := by decide +kernel
theorem dX1_lamp_70 : decode cX1_lamp 70 = .ok (.ldc 78, 2) := by decide +kernel
theorem dX1_lamp_72 : decode cX1_lamp 72 = .ok (.invokespecial 71, 3) := by decide +kernel
theorem dX1_lamp_75 : decode cX1_lamp 75 = .ok (.athrow, 1) := by decide +kernel
theorem dX1_lamp_76 : decode cX1_lamp 76 = .ok (.aload_n 0, 1) := by decide +kernel
theorem dX1_lamp_77 : decode cX1_lamp 77 = .ok (.getfield 13, 3) := by decide +kernel
theorem dX1_lamp_80 : decode cX1_lamp 80 = .ok (.iload 5, 2) := by decide +kernel
theorem dX1_lamp_82 : decode cX1_lamp 82 = .ok (.iload 4, 2) := by decide +kernel
theorem dX1_lamp_84 : decode cX1_lamp 84 = .ok (.iastore, 1) := by decide +kernel
theorem dX1_lamp_85 : decode cX1_lamp 85 = .ok (.aload_n 0, 1) := by decide +kernel
theorem dX1_lamp_86 : decode cX1_lamp 86 = .ok (.getfield 16, 3) := by decide +kernel
theorem dX1_lamp_89 : decode cX1_lamp 89 = .ok (.iload 5, 2) := by decide +kernel
theorem dX1_lamp_91 : decode cX1_lamp 91 = .ok (.iload_n 3, 1) := by decide +kernel
theorem dX1_lamp_92 : decode cX1_lamp 92 = .ok (.iastore, 1) := by decide +kernel
theorem dX1_lamp_93 : decode cX1_lamp 93 = .ok (.aload_n 0, 1) := by decide +kernel
theorem dX1_lamp_94 : decode cX1_lamp 94 = .ok (.iload 5, 2) := by decide +kernel
theorem dX1_lamp_96 : decode cX1_lamp 96 = .ok (.iconst 1, 1) := by decide +kernel
theorem dX1_lamp_97 : decode cX1_lamp 97 = .ok (.iadd, 1) := by decide +kernel
theorem dX1_lamp_98 : decode cX1_lamp 98 = .ok (.putfield 63, 3) := by decide +kernel
theorem dX1_lamp_101 : decode cX1_lamp 101 = .ok (.aload_n 0, 1) := by decide +kernel
theorem dX1_lamp_102 : decode cX1_lamp 102 = .ok (.iload 5, 2) := by decide +kernel
theorem dX1_lamp_104 : decode cX1_lamp 104 = .ok (.invokevirtual 80, 3) := by decide +kernel
theorem dX1_lamp_107 : decode cX1_lamp 107 = .ok (.iload 5, 2) := by decide +kernel
theorem dX1_lamp_109 : decode cX1_lamp 109 = .ok (.ireturn, 1) := by decide +kernel
set_option maxRecDepth 20000 in
theorem ggX1_carry_X1_requireLamp : GoodIn wsX1_carry wsX1_requireLamp := goodIn_ca (goodIn_r _ [7, 8, 9, 10, 122, 123, 124, 125, 126, 127, 128, 129, 130, 131, 132] (by decide +kernel) (by decide +kernel)) (goodIn_sub (fun _ h => List.mem_cons_of_mem _ (List.mem_append_right _ h)) (by decide +kernel))
set_option maxRecDepth 20000 in
theorem gX1_carry_X1_requireLamp : GoodIn wsX1_carry (wsV RX1 83 RX1 yX1_requireLamp wsX1_requireLamp) := goodIn_app (goodIn_of _ (by decide +kernel)) ggX1_carry_X1_requireLamp
set_option maxRecDepth 20000 in
theorem ggX1_carry_X1_requirePlace : GoodIn wsX1_carry wsX1_requirePlace := goodIn_ca (goodIn_r _ [13, 8, 9] (by decide +kernel) (by decide +kernel)) (goodIn_sub (fun _ h => List.mem_cons_of_mem _ (List.mem_append_right _ h)) (by decide +kernel))
set_option maxRecDepth 20000 in
theorem gX1_carry_X1_requirePlace : GoodIn wsX1_carry (va_wsS RX1 38 yX1_requirePlace wsX1_requirePlace) := goodIn_app (goodIn_of _ (by decide +kernel)) ggX1_carry_X1_requirePlace
set_option maxRecDepth 20000 in
theorem ggX1_carry_X1_cellAt : GoodIn wsX1_carry wsX1_cellAt := goodIn_r _ [16] (by decide +kernel) (by decide +kernel)
set_option maxRecDepth 20000 in
theorem gX1_carry_X1_cellAt : GoodIn wsX1_carry (va_wsS RX1 46 yX1_cellAt wsX1_cellAt) := goodIn_app (goodIn_of _ (by decide +kernel)) ggX1_carry_X1_cellAt
set_option maxRecDepth 20000 in
theorem ggX1_carry_X1_isLampAt : GoodIn wsX1_carry wsX1_isLampAt := goodIn_r _ [20, 10, 21, 22, 23, 6, 24, 25, 122, 123, 124, 125, 126, 127, 128, 129, 130, 131, 132] (by decide +kernel) (by decide +kernel)
set_option maxRecDepth 20000 in
theorem gX1_carry_X1_isLampAt : GoodIn wsX1_carry (wsV RX1 74 RX1 yX1_isLampAt wsX1_isLampAt) := goodIn_app (goodIn_of _ (by decide +kernel)) ggX1_carry_X1_isLampAt
set_option maxRecDepth 20000 in
theorem ggX1_carry_X1_putLamp : GoodIn wsX1_carry wsX1_putLamp := goodIn_r _ [29, 25, 122, 123, 124, 125, 126, 127, 128, 129, 130, 131, 132] (by decide +kernel) (by decide +kernel)
set_option maxRecDepth 20000 in
theorem gX1_carry_X1_putLamp : GoodIn wsX1_carry (wsV RX1 86 RX1 yX1_putLamp wsX1_putLamp) := goodIn_app (goodIn_of _ (by decide +kernel)) ggX1_carry_X1_putLamp
set_option maxRecDepth 20000 in
theorem ggX1_carry_X1_shine : GoodIn wsX1_carry wsX1_shine := goodIn_r _ [33, 34, 35, 36, 37, 6, 38, 21, 22, 23, 24, 25, 39, 40, 41, 42, 43, 44, 45, 46, 47, 48, 49, 50, 51, 52, 53, 54, 55, 56, 57, 58, 59, 60, 61, 62, 63, 64, 65, 66, 67, 68, 69, 70, 71, 72, 73, 74, 75, 76, 77, 78, 79, 80, 81, 82, 83, 84, 85, 86, 87, 88, 89, 90, 91, 92, 15, 16, 93, 94, 95, 96, 97, 98, 99, 100, 101, 102, 103, 104, 105, 106, 107, 108, 109, 122, 123, 124, 125, 126, 127, 128, 129, 130, 131, 132, 133, 134, 135, 136, 137, 138, 139, 140, 141] (by decide +kernel) (by decide +kernel)
set_option maxRecDepth 20000 in
theorem gX1_carry_X1_shine : GoodIn wsX1_carry (wsV RX1 80 RX1 yX1_shine wsX1_shine) := goodIn_app (goodIn_of _ (by decide +kernel)) ggX1_carry_X1_shine
set_option maxRecDepth 20000 in
theorem ggX1_carry_X1_litCells : GoodIn wsX1_carry wsX1_litCells := goodIn_r _ [113, 114, 115, 116, 6, 117, 118, 119, 120, 121, 34, 122, 123, 124, 125, 126, 127, 128, 129, 130, 131, 132] (by decide +kernel) (by decide +kernel)
set_option maxRecDepth 20000 in
theorem gX1_carry_X1_litCells : GoodIn wsX1_carry (wsV RX1 89 RX1 yX1_litCells wsX1_litCells) := goodIn_app (goodIn_of _ (by decide +kernel)) ggX1_carry_X1_litCells
theorem dX1_carry_0 : decode cX1_carry 0 = .ok (.aload_n 0, 1) := by decide +kernel
theorem dX1_carry_1 : decode cX1_carry 1 = .ok (.iload_n 1, 1) := by decide +kernel
theorem dX1_carry_2 : decode cX1_carry 2 = .ok (.invokevirtual 83, 3) := by decide +kernel
theorem dX1_carry_5 : decode cX1_carry 5 = .ok (.iload_n 2, 1) := by decide +kernel
theorem dX1_carry_6 : decode cX1_carry 6 = .ok (.iload_n 3, 1) := by decide +kernel
theorem dX1_carry_7 : decode cX1_carry 7 = .ok (.invokestatic 38, 3) := by decide +kernel
theorem dX1_carry_10 : decode cX1_carry 10 = .ok (.iload_n 2, 1) := by decide +kernel
theorem dX1_carry_11 : decode cX1_carry 11 = .ok (.iload_n 3, 1) := by decide +kernel
theorem dX1_carry_12 : decode cX1_carry 12 = .ok (.invokestatic 46, 3) := by decide +kernel
theorem dX1_carry_15 : decode cX1_carry 15 = .ok (.istore 4, 2) := by decide +kernel
theorem dX1_carry_17 : decode cX1_carry 17 = .ok (.aload_n 0, 1) := by decide +kernel
theorem dX1_carry_18 : decode cX1_carry 18 = .ok (.iload 4, 2) := by decide +kernel
theorem dX1_carry_20 : decode cX1_carry 20 = .ok (.invokevirtual 74, 3) := by decide +kernel
theorem dX1_carry_23 : decode cX1_carry 23 = .ok (.ifCond .eq 13, 3) := by decide +kernel
theorem dX1_carry_26 : decode cX1_carry 26 = .ok (.new 67, 3) := by decide +kernel
theorem dX1_carry_29 : decode cX1_carry 29 = .ok (.dup, 1) := by decide +kernel
theorem dX1_carry_30 : decode cX1_carry 30 = .ok (.ldc 78, 2) := by decide +kernel
theorem dX1_carry_32 : decode cX1_carry 32 = .ok (.invokespecial 71, 3) := by decide +kernel
theorem dX1_carry_35 : decode cX1_carry 35 = .ok (.athrow, 1) := by decide +kernel
theorem dX1_carry_36 : decode cX1_carry 36 = .ok (.aload_n 0, 1) := by decide +kernel
theorem dX1_carry_37 : decode cX1_carry 37 = .ok (.iload_n 1, 1) := by decide +kernel
theorem dX1_carry_38 : decode cX1_carry 38 = .ok (.iload 4, 2) := by decide +kernel
theorem dX1_carry_40 : decode cX1_carry 40 = .ok (.invokevirtual 86, 3) := by decide +kernel
theorem dX1_carry_43 : decode cX1_carry 43 = .ok (.aload_n 0, 1) := by decide +kernel
theorem dX1_carry_44 : decode cX1_carry 44 = .ok (.iload_n 1, 1) := by decide +kernel
theorem dX1_carry_45 : decode cX1_carry 45 = .ok (.invokevirtual 80, 3) := by decide +kernel
theorem dX1_carry_48 : decode cX1_carry 48 = .ok (.aload_n 0, 1) := by decide +kernel
theorem dX1_carry_49 : decode cX1_carry 49 = .ok (.invokevirtual 89, 3) := by decide +kernel
theorem dX1_carry_52 : decode cX1_carry 52 = .ok (.ireturn, 1) := by decide +kernel
set_option maxRecDepth 20000 in
theorem ggX1_turn_X1_requireLamp : GoodIn wsX1_turn wsX1_requireLamp := goodIn_ca (goodIn_r _ [5, 6, 7, 8, 105, 106, 107, 108, 109, 110, 111, 112, 113, 114, 115] (by decide +kernel) (by decide +kernel)) (goodIn_sub (fun _ h => List.mem_cons_of_mem _ (List.mem_append_left _ (List.mem_append_right _ h))) (by decide +kernel))
set_option maxRecDepth 20000 in
theorem gX1_turn_X1_requireLamp : GoodIn wsX1_turn (wsV RX1 83 RX1 yX1_requireLamp wsX1_requireLamp) := goodIn_app (goodIn_of _ (by decide +kernel)) ggX1_turn_X1_requireLamp
set_option maxRecDepth 20000 in
theorem ggX1_turn_X1_requireReach : GoodIn wsX1_turn wsX1_requireReach := goodIn_ca (goodIn_r _ [11, 12, 13] (by decide +kernel) (by decide +kernel)) (goodIn_sub (fun _ h => List.mem_cons_of_mem _ (List.mem_append_right _ h)) (by decide +kernel))
set_option maxRecDepth 20000 in
theorem gX1_turn_X1_requireReach : GoodIn wsX1_turn (va_wsS RX1 60 yX1_requireReach wsX1_requireReach) := goodIn_app (goodIn_of _ (by decide +kernel)) ggX1_turn_X1_requireReach
set_option maxRecDepth 20000 in
theorem ggX1_turn_X1_reachOf : GoodIn wsX1_turn wsX1_reachOf := goodIn_r _ [17, 18, 105, 106, 107, 108, 109, 110, 111, 112, 113, 114, 115] (by decide +kernel) (by decide +kernel)
set_option maxRecDepth 20000 in
theorem gX1_turn_X1_reachOf : GoodIn wsX1_turn (wsV RX1 93 RX1 yX1_reachOf wsX1_reachOf) := goodIn_app (goodIn_of _ (by decide +kernel)) ggX1_turn_X1_reachOf
set_option maxRecDepth 20000 in
theorem ggX1_turn_X1_putReach : GoodIn wsX1_turn wsX1_putReach := goodIn_r _ [22, 18, 105, 106, 107, 108, 109, 110, 111, 112, 113, 114, 115] (by decide +kernel) (by decide +kernel)
set_option maxRecDepth 20000 in
theorem gX1_turn_X1_putReach : GoodIn wsX1_turn (wsV RX1 96 RX1 yX1_putReach wsX1_putReach) := goodIn_app (goodIn_of _ (by decide +kernel)) ggX1_turn_X1_putReach
set_option maxRecDepth 20000 in
theorem ggX1_turn_X1_shine : GoodIn wsX1_turn wsX1_shine := goodIn_r _ [26, 27, 28, 29, 30, 4, 31, 32, 33, 34, 35, 36, 14, 15, 16, 17, 18, 37, 38, 39, 40, 41, 42, 43, 44, 45, 46, 47, 48, 49, 50, 51, 52, 53, 54, 55, 56, 57, 58, 59, 60, 61, 62, 63, 64, 65, 66, 67, 68, 69, 70, 71, 72, 73, 74, 75, 76, 77, 78, 79, 80, 81, 82, 83, 84, 85, 86, 87, 88, 89, 90, 91, 92, 93, 94, 95, 96, 97, 98, 99, 100, 101, 102, 103, 104, 105, 106, 107, 108, 109, 110, 111, 112, 113, 114, 115, 116, 117, 118, 119, 120, 121, 122, 123, 124] (by decide +kernel) (by decide +kernel)
set_option maxRecDepth 20000 in
theorem gX1_turn_X1_shine : GoodIn wsX1_turn (wsV RX1 80 RX1 yX1_shine wsX1_shine) := goodIn_app (goodIn_of _ (by decide +kernel)) ggX1_turn_X1_shine
theorem dX1_turn_0 : decode cX1_turn 0 = .ok (.aload_n 0, 1) := by decide +kernel
theorem dX1_turn_1 : decode cX1_turn 1 = .ok (.iload_n 1, 1) := by decide +kernel
theorem dX1_turn_2 : decode cX1_turn 2 = .ok (.invokevirtual 83, 3) := by decide +kernel
theorem dX1_turn_5 : decode cX1_turn 5 = .ok (.iload_n 2, 1) := by decide +kernel
theorem dX1_turn_6 : decode cX1_turn 6 = .ok (.invokestatic 60, 3) := by decide +kernel
theorem dX1_turn_9 : decode cX1_turn 9 = .ok (.aload_n 0, 1) := by decide +kernel
theorem dX1_turn_10 : decode cX1_turn 10 = .ok (.iload_n 1, 1) := by decide +kernel
theorem dX1_turn_11 : decode cX1_turn 11 = .ok (.invokevirtual 93, 3) := by decide +kernel
theorem dX1_turn_14 : decode cX1_turn 14 = .ok (.istore_n 3, 1) := by decide +kernel
theorem dX1_turn_15 : decode cX1_turn 15 = .ok (.aload_n 0, 1) := by decide +kernel
theorem dX1_turn_16 : decode cX1_turn 16 = .ok (.iload_n 1, 1) := by decide +kernel
theorem dX1_turn_17 : decode cX1_turn 17 = .ok (.iload_n 2, 1) := by decide +kernel
theorem dX1_turn_18 : decode cX1_turn 18 = .ok (.invokevirtual 96, 3) := by decide +kernel
theorem dX1_turn_21 : decode cX1_turn 21 = .ok (.aload_n 0, 1) := by decide +kernel
theorem dX1_turn_22 : decode cX1_turn 22 = .ok (.iload_n 1, 1) := by decide +kernel
theorem dX1_turn_23 : decode cX1_turn 23 = .ok (.invokevirtual 80, 3) := by decide +kernel
theorem dX1_turn_26 : decode cX1_turn 26 = .ok (.iload_n 3, 1) := by decide +kernel
theorem dX1_turn_27 : decode cX1_turn 27 = .ok (.ireturn, 1) := by decide +kernel
set_option maxRecDepth 20000 in
theorem ggX1_watcher_X1_requirePlace : GoodIn wsX1_watcher wsX1_requirePlace := goodIn_ca (goodIn_r _ [8, 9, 10] (by decide +kernel) (by decide +kernel)) (goodIn_sub (fun _ h => List.mem_cons_of_mem _ (List.mem_append_right _ h)) (by decide +kernel))
set_option maxRecDepth 20000 in
theorem gX1_watcher_X1_requirePlace : GoodIn wsX1_watcher (va_wsS RX1 38 yX1_requirePlace wsX1_requirePlace) := goodIn_app (goodIn_of _ (by decide +kernel)) ggX1_watcher_X1_requirePlace
set_option maxRecDepth 20000 in
theorem ggX1_watcher_X1_cellAt : GoodIn wsX1_watcher wsX1_cellAt := goodIn_r _ [13] (by decide +kernel) (by decide +kernel)
set_option maxRecDepth 20000 in
theorem gX1_watcher_X1_cellAt : GoodIn wsX1_watcher (va_wsS RX1 46 yX1_cellAt wsX1_cellAt) := goodIn_app (goodIn_of _ (by decide +kernel)) ggX1_watcher_X1_cellAt
set_option maxRecDepth 20000 in
theorem ggX1_watcher_X1_kindOf : GoodIn wsX1_watcher wsX1_kindOf := goodIn_r _ [17, 18, 19, 20, 21, 22, 23, 24, 25, 26, 27, 28, 29] (by decide +kernel) (by decide +kernel)
set_option maxRecDepth 20000 in
theorem gX1_watcher_X1_kindOf : GoodIn wsX1_watcher (wsV RX1 50 RX1 yX1_kindOf wsX1_kindOf) := goodIn_app (goodIn_of _ (by decide +kernel)) ggX1_watcher_X1_kindOf
theorem dX1_watcher_0 : decode cX1_watcher 0 = .ok (.iload_n 1, 1) := by decide +kernel
theorem dX1_watcher_1 : decode cX1_watcher 1 = .ok (.iload_n 2, 1) := by decide +kernel
theorem dX1_watcher_2 : decode cX1_watcher 2 = .ok (.invokestatic 38, 3) := by decide +kernel
theorem dX1_watcher_5 : decode cX1_watcher 5 = .ok (.iload_n 1, 1) := by decide +kernel
theorem dX1_watcher_6 : decode cX1_watcher 6 = .ok (.iload_n 2, 1) := by decide +kernel
theorem dX1_watcher_7 : decode cX1_watcher 7 = .ok (.invokestatic 46, 3) := by decide +kernel
theorem dX1_watcher_10 : decode cX1_watcher 10 = .ok (.istore_n 3, 1) := by decide +kernel
theorem dX1_watcher_11 : decode cX1_watcher 11 = .ok (.aload_n 0, 1) := by decide +kernel
theorem dX1_watcher_12 : decode cX1_watcher 12 = .ok (.getfield 99, 3) := by decide +kernel
theorem dX1_watcher_15 : decode cX1_watcher 15 = .ok (.istore 4, 2) := by decide +kernel
theorem dX1_watcher_17 : decode cX1_watcher 17 = .ok (.iload 4, 2) := by decide +kernel
theorem dX1_watcher_19 : decode cX1_watcher 19 = .ok (.ifCond .lt 13, 3) := by decide +kernel
theorem dX1_watcher_22 : decode cX1_watcher 22 = .ok (.iload 4, 2) := by decide +kernel
theorem dX1_watcher_24 : decode cX1_watcher 24 = .ok (.aload_n 0, 1) := by decide +kernel
theorem dX1_watcher_25 : decode cX1_watcher 25 = .ok (.getfield 19, 3) := by decide +kernel
theorem dX1_watcher_28 : decode cX1_watcher 28 = .ok (.arraylength, 1) := by decide +kernel
theorem dX1_watcher_29 : decode cX1_watcher 29 = .ok (.if_icmp .lt 13, 3) := by decide +kernel
theorem dX1_watcher_32 : decode cX1_watcher 32 = .ok (.new 67, 3) := by decide +kernel
theorem dX1_watcher_35 : decode cX1_watcher 35 = .ok (.dup, 1) := by decide +kernel
theorem dX1_watcher_36 : decode cX1_watcher 36 = .ok (.ldc 102, 2) := by decide +kernel
theorem dX1_watcher_38 : decode cX1_watcher 38 = .ok (.invokespecial 71, 3) := by decide +kernel
theorem dX1_watcher_41 : decode cX1_watcher 41 = .ok (.athrow, 1) := by decide +kernel
theorem dX1_watcher_42 : decode cX1_watcher 42 = .ok (.aload_n 0, 1) := by decide +kernel
theorem dX1_watcher_43 : decode cX1_watcher 43 = .ok (.iload_n 3, 1) := by decide +kernel
theorem dX1_watcher_44 : decode cX1_watcher 44 = .ok (.invokevirtual 50, 3) := by decide +kernel
theorem dX1_watcher_47 : decode cX1_watcher 47 = .ok (.ifCond .eq 13, 3) := by decide +kernel
theorem dX1_watcher_50 : decode cX1_watcher 50 = .ok (.new 67, 3) := by decide +kernel
theorem dX1_watcher_53 : decode cX1_watcher 53 = .ok (.dup, 1) := by decide +kernel
theorem dX1_watcher_54 : decode cX1_watcher 54 = .ok (.ldc 104, 2) := by decide +kernel
theorem dX1_watcher_56 : decode cX1_watcher 56 = .ok (.invokespecial 71, 3) := by decide +kernel
theorem dX1_watcher_59 : decode cX1_watcher 59 = .ok (.athrow, 1) := by decide +kernel
theorem dX1_watcher_60 : decode cX1_watcher 60 = .ok (.aload_n 0, 1) := by decide +kernel
theorem dX1_watcher_61 : decode cX1_watcher 61 = .ok (.getfield 19, 3) := by decide +kernel
theorem dX1_watcher_64 : decode cX1_watcher 64 = .ok (.iload 4, 2) := by decide +kernel
theorem dX1_watcher_66 : decode cX1_watcher 66 = .ok (.iload_n 3, 1) := by decide +kernel
theorem dX1_watcher_67 : decode cX1_watcher 67 = .ok (.iastore, 1) := by decide +kernel
theorem dX1_watcher_68 : decode cX1_watcher 68 = .ok (.aload_n 0, 1) := by decide +kernel
theorem dX1_watcher_69 : decode cX1_watcher 69 = .ok (.iload 4, 2) := by decide +kernel
theorem dX1_watcher_71 : decode cX1_watcher 71 = .ok (.iconst 1, 1) := by decide +kernel
theorem dX1_watcher_72 : decode cX1_watcher 72 = .ok (.iadd, 1) := by decide +kernel
theorem dX1_watcher_73 : decode cX1_watcher 73 = .ok (.putfield 99, 3) := by decide +kernel
theorem dX1_watcher_76 : decode cX1_watcher 76 = .ok (.iload 4, 2) := by decide +kernel
theorem dX1_watcher_78 : decode cX1_watcher 78 = .ok (.ireturn, 1) := by decide +kernel
set_option maxRecDepth 20000 in
theorem ggX1_creep_X1_requireWatcher : GoodIn wsX1_creep wsX1_requireWatcher := goodIn_ca (goodIn_r _ [8, 9, 10, 11, 72, 73, 74, 75, 76, 77, 78, 79, 80, 81, 82] (by decide +kernel) (by decide +kernel)) (goodIn_sub (fun _ h => List.mem_cons_of_mem _ (List.mem_append_right _ h)) (by decide +kernel))
set_option maxRecDepth 20000 in
theorem gX1_creep_X1_requireWatcher : GoodIn wsX1_creep (wsV RX1 106 RX1 yX1_requireWatcher wsX1_requireWatcher) := goodIn_app (goodIn_of _ (by decide +kernel)) ggX1_creep_X1_requireWatcher
set_option maxRecDepth 20000 in
theorem ggX1_creep_X1_requirePlace : GoodIn wsX1_creep wsX1_requirePlace := goodIn_ca (goodIn_r _ [14, 9, 10] (by decide +kernel) (by decide +kernel)) (goodIn_sub (fun _ h => List.mem_cons_of_mem _ (List.mem_append_right _ h)) (by decide +kernel))
set_option maxRecDepth 20000 in
theorem gX1_creep_X1_requirePlace : GoodIn wsX1_creep (va_wsS RX1 38 yX1_requirePlace wsX1_requirePlace) := goodIn_app (goodIn_of _ (by decide +kernel)) ggX1_creep_X1_requirePlace
set_option maxRecDepth 20000 in
theorem ggX1_creep_X1_cellAt : GoodIn wsX1_creep wsX1_cellAt := goodIn_r _ [17] (by decide +kernel) (by decide +kernel)
set_option maxRecDepth 20000 in
theorem gX1_creep_X1_cellAt : GoodIn wsX1_creep (va_wsS RX1 46 yX1_cellAt wsX1_cellAt) := goodIn_app (goodIn_of _ (by decide +kernel)) ggX1_creep_X1_cellAt
set_option maxRecDepth 20000 in
theorem ggX1_creep_X1_stepsTo : GoodIn wsX1_creep wsX1_stepsTo := goodIn_r _ [21, 22, 23, 24, 7, 25, 26, 27, 28, 29, 30, 31, 32, 33, 34, 35, 36, 37, 38, 39, 40, 41, 42, 43, 44, 45, 46, 47, 48, 49, 50, 51, 52, 53, 54, 55, 56, 57, 58, 59, 60, 61, 62, 63, 64, 65, 66, 67, 72, 73, 74, 75, 76, 77, 78, 79, 80, 81, 82] (by decide +kernel) (by decide +kernel)
set_option maxRecDepth 20000 in
theorem gX1_creep_X1_stepsTo : GoodIn wsX1_creep (wsV RX1 109 RX1 yX1_stepsTo wsX1_stepsTo) := goodIn_app (goodIn_of _ (by decide +kernel)) ggX1_creep_X1_stepsTo
set_option maxRecDepth 20000 in
theorem ggX1_creep_X1_putWatcher : GoodIn wsX1_creep wsX1_putWatcher := goodIn_r _ [71, 26, 72, 73, 74, 75, 76, 77, 78, 79, 80, 81, 82] (by decide +kernel) (by decide +kernel)
set_option maxRecDepth 20000 in
theorem gX1_creep_X1_putWatcher : GoodIn wsX1_creep (wsV RX1 114 RX1 yX1_putWatcher wsX1_putWatcher) := goodIn_app (goodIn_of _ (by decide +kernel)) ggX1_creep_X1_putWatcher
theorem dX1_creep_0 : decode cX1_creep 0 = .ok (.aload_n 0, 1) := by decide +kernel
theorem dX1_creep_1 : decode cX1_creep 1 = .ok (.iload_n 1, 1) := by decide +kernel
theorem dX1_creep_2 : decode cX1_creep 2 = .ok (.invokevirtual 106, 3) := by decide +kernel
theorem dX1_creep_5 : decode cX1_creep 5 = .ok (.iload_n 2, 1) := by decide +kernel
theorem dX1_creep_6 : decode cX1_creep 6 = .ok (.iload_n 3, 1) := by decide +kernel
theorem dX1_creep_7 : decode cX1_creep 7 = .ok (.invokestatic 38, 3) := by decide +kernel
theorem dX1_creep_10 : decode cX1_creep 10 = .ok (.iload_n 2, 1) := by decide +kernel
theorem dX1_creep_11 : decode cX1_creep 11 = .ok (.iload_n 3, 1) := by decide +kernel
theorem dX1_creep_12 : decode cX1_creep 12 = .ok (.invokestatic 46, 3) := by decide +kernel
theorem dX1_creep_15 : decode cX1_creep 15 = .ok (.istore 4, 2) := by decide +kernel
theorem dX1_creep_17 : decode cX1_creep 17 = .ok (.aload_n 0, 1) := by decide +kernel
theorem dX1_creep_18 : decode cX1_creep 18 = .ok (.iload_n 1, 1) := by decide +kernel
theorem dX1_creep_19 : decode cX1_creep 19 = .ok (.iload 4, 2) := by decide +kernel
theorem dX1_creep_21 : decode cX1_creep 21 = .ok (.invokevirtual 109, 3) := by decide +kernel
theorem dX1_creep_24 : decode cX1_creep 24 = .ok (.istore 5, 2) := by decide +kernel
theorem dX1_creep_26 : decode cX1_creep 26 = .ok (.iload 5, 2) := by decide +kernel
theorem dX1_creep_28 : decode cX1_creep 28 = .ok (.iconst (-1), 1) := by decide +kernel
theorem dX1_creep_29 : decode cX1_creep 29 = .ok (.if_icmp .ne 13, 3) := by decide +kernel
theorem dX1_creep_32 : decode cX1_creep 32 = .ok (.new 67, 3) := by decide +kernel
theorem dX1_creep_35 : decode cX1_creep 35 = .ok (.dup, 1) := by decide +kernel
theorem dX1_creep_36 : decode cX1_creep 36 = .ok (.ldc 112, 2) := by decide +kernel
theorem dX1_creep_38 : decode cX1_creep 38 = .ok (.invokespecial 71, 3) := by decide +kernel
theorem dX1_creep_41 : decode cX1_creep 41 = .ok (.athrow, 1) := by decide +kernel
theorem dX1_creep_42 : decode cX1_creep 42 = .ok (.aload_n 0, 1) := by decide +kernel
theorem dX1_creep_43 : decode cX1_creep 43 = .ok (.iload_n 1, 1) := by decide +kernel
theorem dX1_creep_44 : decode cX1_creep 44 = .ok (.iload 4, 2) := by decide +kernel
theorem dX1_creep_46 : decode cX1_creep 46 = .ok (.invokevirtual 114, 3) := by decide +kernel
theorem dX1_creep_49 : decode cX1_creep 49 = .ok (.aload_n 0, 1) := by decide +kernel
theorem dX1_creep_50 : decode cX1_creep 50 = .ok (.dup, 1) := by decide +kernel
theorem dX1_creep_51 : decode cX1_creep 51 = .ok (.getfield 117, 3) := by decide +kernel
theorem dX1_creep_54 : decode cX1_creep 54 = .ok (.iload 5, 2) := by decide +kernel
theorem dX1_creep_56 : decode cX1_creep 56 = .ok (.iadd, 1) := by decide +kernel
theorem dX1_creep_57 : decode cX1_creep 57 = .ok (.putfield 117, 3) := by decide +kernel
theorem dX1_creep_60 : decode cX1_creep 60 = .ok (.iload 5, 2) := by decide +kernel
theorem dX1_creep_62 : decode cX1_creep 62 = .ok (.ireturn, 1) := by decide +kernel
set_option maxRecDepth 20000 in
theorem ggX1_told_X1_requirePlace : GoodIn wsX1_told wsX1_requirePlace := goodIn_ca (goodIn_r _ [4, 5, 6] (by decide +kernel) (by decide +kernel)) (goodIn_sub (fun _ h => List.mem_cons_of_mem _ (List.mem_append_right _ h)) (by decide +kernel))
set_option maxRecDepth 20000 in
theorem gX1_told_X1_requirePlace : GoodIn wsX1_told (va_wsS RX1 38 yX1_requirePlace wsX1_requirePlace) := goodIn_app (goodIn_of _ (by decide +kernel)) ggX1_told_X1_requirePlace
set_option maxRecDepth 20000 in
theorem ggX1_told_X1_requireWhat : GoodIn wsX1_told wsX1_requireWhat := goodIn_ca (goodIn_r _ [9, 5, 6] (by decide +kernel) (by decide +kernel)) (goodIn_sub (fun _ h => List.mem_cons_of_mem _ (List.mem_append_right _ h)) (by decide +kernel))
set_option maxRecDepth 20000 in
theorem gX1_told_X1_requireWhat : GoodIn wsX1_told (va_wsS RX1 120 yX1_requireWhat wsX1_requireWhat) := goodIn_app (goodIn_of _ (by decide +kernel)) ggX1_told_X1_requireWhat
set_option maxRecDepth 20000 in
theorem ggX1_told_X1_cellAt : GoodIn wsX1_told wsX1_cellAt := goodIn_r _ [12] (by decide +kernel) (by decide +kernel)
set_option maxRecDepth 20000 in
theorem gX1_told_X1_cellAt : GoodIn wsX1_told (va_wsS RX1 46 yX1_cellAt wsX1_cellAt) := goodIn_app (goodIn_of _ (by decide +kernel)) ggX1_told_X1_cellAt
set_option maxRecDepth 20000 in
theorem ggX1_told_X1_kindOf : GoodIn wsX1_told wsX1_kindOf := goodIn_r _ [16, 17, 131, 132, 133, 134, 135, 136, 137, 138, 139, 140, 141] (by decide +kernel) (by decide +kernel)
set_option maxRecDepth 20000 in
theorem gX1_told_X1_kindOf : GoodIn wsX1_told (wsV RX1 50 RX1 yX1_kindOf wsX1_kindOf) := goodIn_app (goodIn_of _ (by decide +kernel)) ggX1_told_X1_kindOf
set_option maxRecDepth 20000 in
theorem ggX1_told_X1_brightness : GoodIn wsX1_told wsX1_brightness := goodIn_r _ [21, 22, 23, 24, 25, 26, 27, 28, 29, 30, 31, 32, 3, 33, 34, 35, 36, 37, 38, 39, 40, 41, 42, 43, 44, 45, 46, 47, 48, 49, 50, 131, 132, 133, 134, 135, 136, 137, 138, 139, 140, 141] (by decide +kernel) (by decide +kernel)
set_option maxRecDepth 20000 in
theorem gX1_told_X1_brightness : GoodIn wsX1_told (wsV RX1 123 RX1 yX1_brightness wsX1_brightness) := goodIn_app (goodIn_of _ (by decide +kernel)) ggX1_told_X1_brightness
set_option maxRecDepth 20000 in
theorem ggX1_told_X1_lampsOn : GoodIn wsX1_told wsX1_lampsOn := goodIn_r _ [33, 34, 131, 132, 133, 134, 135, 136, 137, 138, 139, 140, 141] (by decide +kernel) (by decide +kernel)
set_option maxRecDepth 20000 in
theorem gX1_told_X1_lampsOn : GoodIn wsX1_told (wsV RX1 126 RX1 yX1_lampsOn wsX1_lampsOn) := goodIn_app (goodIn_of _ (by decide +kernel)) ggX1_told_X1_lampsOn
set_option maxRecDepth 20000 in
theorem ggX1_told_J6_bitCount_0f7a4 : GoodIn wsX1_told wsJ6_bitCount_0f7a4 := goodIn_r _ [54, 55, 56, 57] (by decide +kernel) (by decide +kernel)
set_option maxRecDepth 20000 in
theorem gX1_told_J6_bitCount_0f7a4 : GoodIn wsX1_told (va_wsS RX1 129 yJ6_bitCount_0f7a4 wsJ6_bitCount_0f7a4) := goodIn_app (goodIn_of _ (by decide +kernel)) ggX1_told_J6_bitCount_0f7a4
set_option maxRecDepth 20000 in
theorem ggX1_told_X1_watchersAt : GoodIn wsX1_told wsX1_watchersAt := goodIn_r _ [61, 62, 63, 64, 65, 3, 66, 67, 131, 132, 133, 134, 135, 136, 137, 138, 139, 140, 141] (by decide +kernel) (by decide +kernel)
set_option maxRecDepth 20000 in
theorem gX1_told_X1_watchersAt : GoodIn wsX1_told (wsV RX1 134 RX1 yX1_watchersAt wsX1_watchersAt) := goodIn_app (goodIn_of _ (by decide +kernel)) ggX1_told_X1_watchersAt
set_option maxRecDepth 20000 in
theorem ggX1_told_X1_watchersSeeing : GoodIn wsX1_told wsX1_watchersSeeing := goodIn_r _ [71, 62, 72, 73, 74, 3, 75, 76, 77, 78, 79, 30, 31, 32, 33, 34, 63, 64, 65, 66, 67, 80, 81, 82, 83, 84, 85, 86, 87, 88, 89, 90, 91, 92, 93, 94, 24, 25, 26, 95, 96, 97, 98, 99, 41, 42, 44, 45, 100, 101, 53, 102, 103, 104, 105, 106, 107, 108, 109, 110, 111, 112, 113, 114, 115, 116, 117, 118, 11, 12, 119, 120, 121, 122, 13, 14, 15, 16, 17, 123, 124, 125, 126, 127, 128, 129, 130, 131, 132, 133, 134, 135, 136, 137, 138, 139, 140, 141, 142, 143, 144, 145, 146, 147, 148, 149, 150] (by decide +kernel) (by decide +kernel)
set_option maxRecDepth 20000 in
theorem gX1_told_X1_watchersSeeing : GoodIn wsX1_told (wsV RX1 137 RX1 yX1_watchersSeeing wsX1_watchersSeeing) := goodIn_app (goodIn_of _ (by decide +kernel)) ggX1_told_X1_watchersSeeing
theorem dX1_told_0 : decode cX1_told 0 = .ok (.iload_n 1, 1) := by decide +kernel
theorem dX1_told_1 : decode cX1_told 1 = .ok (.iload_n 2, 1) := by decide +kernel
theorem dX1_told_2 : decode cX1_told 2 = .ok (.invokestatic 38, 3) := by decide +kernel
theorem dX1_told_5 : decode cX1_told 5 = .ok (.iload_n 3, 1) := by decide +kernel
theorem dX1_told_6 : decode cX1_told 6 = .ok (.iconst 4, 1) := by decide +kernel
theorem dX1_told_7 : decode cX1_told 7 = .ok (.invokestatic 120, 3) := by decide +kernel
theorem dX1_told_10 : decode cX1_told 10 = .ok (.iload_n 1, 1) := by decide +kernel
theorem dX1_told_11 : decode cX1_told 11 = .ok (.iload_n 2, 1) := by decide +kernel
theorem dX1_told_12 : decode cX1_told 12 = .ok (.invokestatic 46, 3) := by decide +kernel
theorem dX1_told_15 : decode cX1_told 15 = .ok (.istore 4, 2) := by decide +kernel
theorem dX1_told_17 : decode cX1_told 17 = .ok (.iload_n 3, 1) := by decide +kernel
theorem dX1_told_18 : decode cX1_told 18 = .ok (.tableswitch 61 0 3 #[30, 37, 44, 54], 30) := by decide +kernel
theorem dX1_told_48 : decode cX1_told 48 = .ok (.aload_n 0, 1) := by decide +kernel
theorem dX1_told_49 : decode cX1_told 49 = .ok (.iload 4, 2) := by decide +kernel
theorem dX1_told_51 : decode cX1_told 51 = .ok (.invokevirtual 50, 3) := by decide +kernel
theorem dX1_told_54 : decode cX1_told 54 = .ok (.ireturn, 1) := by decide +kernel
theorem dX1_told_55 : decode cX1_told 55 = .ok (.aload_n 0, 1) := by decide +kernel
theorem dX1_told_56 : decode cX1_told 56 = .ok (.iload 4, 2) := by decide +kernel
theorem dX1_told_58 : decode cX1_told 58 = .ok (.invokevirtual 123, 3) := by decide +kernel
theorem dX1_told_61 : decode cX1_told 61 = .ok (.ireturn, 1) := by decide +kernel
theorem dX1_told_62 : decode cX1_told 62 = .ok (.aload_n 0, 1) := by decide +kernel
theorem dX1_told_63 : decode cX1_told 63 = .ok (.iload 4, 2) := by decide +kernel
theorem dX1_told_65 : decode cX1_told 65 = .ok (.invokevirtual 126, 3) := by decide +kernel
theorem dX1_told_68 : decode cX1_told 68 = .ok (.invokestatic 129, 3) := by decide +kernel
theorem dX1_told_71 : decode cX1_told 71 = .ok (.ireturn, 1) := by decide +kernel
theorem dX1_told_72 : decode cX1_told 72 = .ok (.aload_n 0, 1) := by decide +kernel
theorem dX1_told_73 : decode cX1_told 73 = .ok (.iload 4, 2) := by decide +kernel
theorem dX1_told_75 : decode cX1_told 75 = .ok (.invokevirtual 134, 3) := by decide +kernel
theorem dX1_told_78 : decode cX1_told 78 = .ok (.ireturn, 1) := by decide +kernel
theorem dX1_told_79 : decode cX1_told 79 = .ok (.aload_n 0, 1) := by decide +kernel
theorem dX1_told_80 : decode cX1_told 80 = .ok (.iload 4, 2) := by decide +kernel
theorem dX1_told_82 : decode cX1_told 82 = .ok (.invokevirtual 137, 3) := by decide +kernel
theorem dX1_told_85 : decode cX1_told 85 = .ok (.ireturn, 1) := by decide +kernel
set_option maxRecDepth 20000 in
theorem ggX1_about_X1_requireLamp : GoodIn wsX1_about wsX1_requireLamp := goodIn_ca (goodIn_r _ [5, 6, 7, 8, 35, 36, 37, 38, 39, 40, 41, 42, 43, 44, 45] (by decide +kernel) (by decide +kernel)) (goodIn_sub (fun _ h => List.mem_cons_of_mem _ (List.mem_append_right _ h)) (by decide +kernel))
set_option maxRecDepth 20000 in
theorem gX1_about_X1_requireLamp : GoodIn wsX1_about (wsV RX1 83 RX1 yX1_requireLamp wsX1_requireLamp) := goodIn_app (goodIn_of _ (by decide +kernel)) ggX1_about_X1_requireLamp
set_option maxRecDepth 20000 in
theorem ggX1_about_X1_requireWhat : GoodIn wsX1_about wsX1_requireWhat := goodIn_ca (goodIn_r _ [11, 6, 7] (by decide +kernel) (by decide +kernel)) (goodIn_sub (fun _ h => List.mem_cons_of_mem _ (List.mem_append_right _ h)) (by decide +kernel))
set_option maxRecDepth 20000 in
theorem gX1_about_X1_requireWhat : GoodIn wsX1_about (va_wsS RX1 120 yX1_requireWhat wsX1_requireWhat) := goodIn_app (goodIn_of _ (by decide +kernel)) ggX1_about_X1_requireWhat
set_option maxRecDepth 20000 in
theorem ggX1_about_X1_cellOfLamp : GoodIn wsX1_about wsX1_cellOfLamp := goodIn_r _ [15, 16, 35, 36, 37, 38, 39, 40, 41, 42, 43, 44, 45] (by decide +kernel) (by decide +kernel)
set_option maxRecDepth 20000 in
theorem gX1_about_X1_cellOfLamp : GoodIn wsX1_about (wsV RX1 140 RX1 yX1_cellOfLamp wsX1_cellOfLamp) := goodIn_app (goodIn_of _ (by decide +kernel)) ggX1_about_X1_cellOfLamp
set_option maxRecDepth 20000 in
theorem ggX1_about_X1_reachOf : GoodIn wsX1_about wsX1_reachOf := goodIn_r _ [20, 21, 35, 36, 37, 38, 39, 40, 41, 42, 43, 44, 45] (by decide +kernel) (by decide +kernel)
set_option maxRecDepth 20000 in
theorem gX1_about_X1_reachOf : GoodIn wsX1_about (wsV RX1 93 RX1 yX1_reachOf wsX1_reachOf) := goodIn_app (goodIn_of _ (by decide +kernel)) ggX1_about_X1_reachOf
set_option maxRecDepth 20000 in
theorem ggX1_about_X1_cellsLitBy : GoodIn wsX1_about wsX1_cellsLitBy := goodIn_r _ [25, 26, 27, 28, 4, 29, 30, 35, 36, 37, 38, 39, 40, 41, 42, 43, 44, 45] (by decide +kernel) (by decide +kernel)
set_option maxRecDepth 20000 in
theorem gX1_about_X1_cellsLitBy : GoodIn wsX1_about (wsV RX1 143 RX1 yX1_cellsLitBy wsX1_cellsLitBy) := goodIn_app (goodIn_of _ (by decide +kernel)) ggX1_about_X1_cellsLitBy
set_option maxRecDepth 20000 in
theorem ggX1_about_X1_cellsLitOnlyBy : GoodIn wsX1_about wsX1_cellsLitOnlyBy := goodIn_r _ [34, 26, 27, 28, 4, 29, 30, 35, 36, 37, 38, 39, 40, 41, 42, 43, 44, 45] (by decide +kernel) (by decide +kernel)
set_option maxRecDepth 20000 in
theorem gX1_about_X1_cellsLitOnlyBy : GoodIn wsX1_about (wsV RX1 146 RX1 yX1_cellsLitOnlyBy wsX1_cellsLitOnlyBy) := goodIn_app (goodIn_of _ (by decide +kernel)) ggX1_about_X1_cellsLitOnlyBy
theorem dX1_about_0 : decode cX1_about 0 = .ok (.aload_n 0, 1) := by decide +kernel
theorem dX1_about_1 : decode cX1_about 1 = .ok (.iload_n 1, 1) := by decide +kernel
theorem dX1_about_2 : decode cX1_about 2 = .ok (.invokevirtual 83, 3) := by decide +kernel
theorem dX1_about_5 : decode cX1_about 5 = .ok (.iload_n 2, 1) := by decide +kernel
theorem dX1_about_6 : decode cX1_about 6 = .ok (.iconst 3, 1) := by decide +kernel
theorem dX1_about_7 : decode cX1_about 7 = .ok (.invokestatic 120, 3) := by decide +kernel
theorem dX1_about_10 : decode cX1_about 10 = .ok (.iload_n 2, 1) := by decide +kernel
theorem dX1_about_11 : decode cX1_about 11 = .ok (.tableswitch 43 0 2 #[25, 31, 37], 25) := by decide +kernel
theorem dX1_about_36 : decode cX1_about 36 = .ok (.aload_n 0, 1) := by decide +kernel
theorem dX1_about_37 : decode cX1_about 37 = .ok (.iload_n 1, 1) := by decide +kernel
theorem dX1_about_38 : decode cX1_about 38 = .ok (.invokevirtual 140, 3) := by decide +kernel
theorem dX1_about_41 : decode cX1_about 41 = .ok (.ireturn, 1) := by decide +kernel
theorem dX1_about_42 : decode cX1_about 42 = .ok (.aload_n 0, 1) := by decide +kernel
theorem dX1_about_43 : decode cX1_about 43 = .ok (.iload_n 1, 1) := by decide +kernel
theorem dX1_about_44 : decode cX1_about 44 = .ok (.invokevirtual 93, 3) := by decide +kernel
theorem dX1_about_47 : decode cX1_about 47 = .ok (.ireturn, 1) := by decide +kernel
theorem dX1_about_48 : decode cX1_about 48 = .ok (.aload_n 0, 1) := by decide +kernel
theorem dX1_about_49 : decode cX1_about 49 = .ok (.iload_n 1, 1) := by decide +kernel
theorem dX1_about_50 : decode cX1_about 50 = .ok (.invokevirtual 143, 3) := by decide +kernel
theorem dX1_about_53 : decode cX1_about 53 = .ok (.ireturn, 1) := by decide +kernel
theorem dX1_about_54 : decode cX1_about 54 = .ok (.aload_n 0, 1) := by decide +kernel
theorem dX1_about_55 : decode cX1_about 55 = .ok (.iload_n 1, 1) := by decide +kernel
theorem dX1_about_56 : decode cX1_about 56 = .ok (.invokevirtual 146, 3) := by decide +kernel
theorem dX1_about_59 : decode cX1_about 59 = .ok (.ireturn, 1) := by decide +kernel
set_option maxRecDepth 20000 in
theorem ggX1_seat_X1_requireWatcher : GoodIn wsX1_seat wsX1_requireWatcher := goodIn_ca (goodIn_r _ [5, 6, 7, 8, 108, 109, 110, 111, 112, 113, 114, 115, 116, 117, 118] (by decide +kernel) (by decide +kernel)) (goodIn_sub (fun _ h => List.mem_cons_of_mem _ (List.mem_append_right _ h)) (by decide +kernel))
set_option maxRecDepth 20000 in
theorem gX1_seat_X1_requireWatcher : GoodIn wsX1_seat (wsV RX1 106 RX1 yX1_requireWatcher wsX1_requireWatcher) := goodIn_app (goodIn_of _ (by decide +kernel)) ggX1_seat_X1_requireWatcher
set_option maxRecDepth 20000 in
theorem ggX1_seat_X1_requireWhat : GoodIn wsX1_seat wsX1_requireWhat := goodIn_ca (goodIn_r _ [11, 6, 7] (by decide +kernel) (by decide +kernel)) (goodIn_sub (fun _ h => List.mem_cons_of_mem _ (List.mem_append_right _ h)) (by decide +kernel))
set_option maxRecDepth 20000 in
theorem gX1_seat_X1_requireWhat : GoodIn wsX1_seat (va_wsS RX1 120 yX1_requireWhat wsX1_requireWhat) := goodIn_app (goodIn_of _ (by decide +kernel)) ggX1_seat_X1_requireWhat
set_option maxRecDepth 20000 in
theorem ggX1_seat_X1_cellOfWatcher : GoodIn wsX1_seat wsX1_cellOfWatcher := goodIn_r _ [15, 16, 108, 109, 110, 111, 112, 113, 114, 115, 116, 117, 118] (by decide +kernel) (by decide +kernel)
set_option maxRecDepth 20000 in
theorem gX1_seat_X1_cellOfWatcher : GoodIn wsX1_seat (wsV RX1 149 RX1 yX1_cellOfWatcher wsX1_cellOfWatcher) := goodIn_app (goodIn_of _ (by decide +kernel)) ggX1_seat_X1_cellOfWatcher
set_option maxRecDepth 20000 in
theorem ggX1_seat_X1_cellsSeenBy : GoodIn wsX1_seat wsX1_cellsSeenBy := goodIn_r _ [20, 21, 22, 23, 4, 24, 25, 26, 27, 28, 29, 30, 31, 32, 33, 12, 13, 14, 15, 16, 34, 35, 36, 37, 38, 39, 40, 41, 42, 43, 44, 45, 46, 47, 48, 49, 50, 51, 52, 53, 54, 55, 56, 57, 58, 59, 60, 61, 62, 63, 64, 65, 66, 67, 68, 69, 70, 71, 72, 73, 74, 75, 76, 77, 78, 79, 80, 81, 82, 83, 84, 85, 86, 87, 88, 89, 90, 91, 92, 93, 94, 95, 96, 97, 98, 99, 108, 109, 110, 111, 112, 113, 114, 115, 116, 117, 118, 119, 120, 121, 122, 123, 124, 125, 126, 127] (by decide +kernel) (by decide +kernel)
set_option maxRecDepth 20000 in
theorem gX1_seat_X1_cellsSeenBy : GoodIn wsX1_seat (wsV RX1 152 RX1 yX1_cellsSeenBy wsX1_cellsSeenBy) := goodIn_app (goodIn_of _ (by decide +kernel)) ggX1_seat_X1_cellsSeenBy
set_option maxRecDepth 20000 in
theorem ggX1_seat_X1_isHidden : GoodIn wsX1_seat wsX1_isHidden := goodIn_r _ [103, 8, 12, 13, 14, 4, 15, 16, 21, 22, 23, 24, 25, 26, 27, 28, 29, 30, 31, 32, 33, 34, 35, 36, 37, 38, 39, 40, 41, 42, 43, 44, 45, 46, 47, 48, 49, 50, 51, 52, 53, 54, 55, 56, 57, 58, 59, 60, 61, 62, 63, 64, 65, 66, 67, 68, 69, 70, 71, 72, 73, 74, 75, 76, 77, 78, 79, 80, 81, 82, 83, 84, 85, 86, 87, 88, 89, 90, 91, 92, 93, 94, 95, 96, 97, 98, 99, 108, 109, 110, 111, 112, 113, 114, 115, 116, 117, 118, 119, 120, 121, 122, 123, 124, 125, 126, 127] (by decide +kernel) (by decide +kernel)
set_option maxRecDepth 20000 in
theorem gX1_seat_X1_isHidden : GoodIn wsX1_seat (wsV RX1 155 RX1 yX1_isHidden wsX1_isHidden) := goodIn_app (goodIn_of _ (by decide +kernel)) ggX1_seat_X1_isHidden
set_option maxRecDepth 20000 in
theorem ggX1_seat_X1_isLit : GoodIn wsX1_seat wsX1_isLit := goodIn_r _ [28, 29, 30, 31, 4, 32, 33, 108, 109, 110, 111, 112, 113, 114, 115, 116, 117, 118] (by decide +kernel) (by decide +kernel)
set_option maxRecDepth 20000 in
theorem gX1_seat_X1_isLit : GoodIn wsX1_seat (wsV RX1 158 RX1 yX1_isLit wsX1_isLit) := goodIn_app (goodIn_of _ (by decide +kernel)) ggX1_seat_X1_isLit
set_option maxRecDepth 20000 in
theorem ggX1_seat_X1_othersSeenBy : GoodIn wsX1_seat wsX1_othersSeenBy := goodIn_r _ [107, 8, 12, 13, 14, 4, 15, 16, 21, 22, 23, 24, 25, 26, 27, 28, 29, 30, 31, 32, 33, 34, 35, 36, 37, 38, 39, 40, 41, 42, 43, 44, 45, 46, 47, 48, 49, 50, 51, 52, 53, 54, 55, 56, 57, 58, 59, 60, 61, 62, 63, 64, 65, 66, 67, 68, 69, 70, 71, 72, 73, 74, 75, 76, 77, 78, 79, 80, 81, 82, 83, 84, 85, 86, 87, 88, 89, 90, 91, 92, 93, 94, 95, 96, 97, 98, 99, 108, 109, 110, 111, 112, 113, 114, 115, 116, 117, 118, 119, 120, 121, 122, 123, 124, 125, 126, 127] (by decide +kernel) (by decide +kernel)
set_option maxRecDepth 20000 in
theorem gX1_seat_X1_othersSeenBy : GoodIn wsX1_seat (wsV RX1 161 RX1 yX1_othersSeenBy wsX1_othersSeenBy) := goodIn_app (goodIn_of _ (by decide +kernel)) ggX1_seat_X1_othersSeenBy
theorem dX1_seat_0 : decode cX1_seat 0 = .ok (.aload_n 0, 1) := by decide +kernel
theorem dX1_seat_1 : decode cX1_seat 1 = .ok (.iload_n 1, 1) := by decide +kernel
theorem dX1_seat_2 : decode cX1_seat 2 = .ok (.invokevirtual 106, 3) := by decide +kernel
theorem dX1_seat_5 : decode cX1_seat 5 = .ok (.iload_n 2, 1) := by decide +kernel
theorem dX1_seat_6 : decode cX1_seat 6 = .ok (.iconst 4, 1) := by decide +kernel
theorem dX1_seat_7 : decode cX1_seat 7 = .ok (.invokestatic 120, 3) := by decide +kernel
theorem dX1_seat_10 : decode cX1_seat 10 = .ok (.iload_n 2, 1) := by decide +kernel
theorem dX1_seat_11 : decode cX1_seat 11 = .ok (.tableswitch 73 0 3 #[29, 35, 41, 55], 29) := by decide +kernel
theorem dX1_seat_40 : decode cX1_seat 40 = .ok (.aload_n 0, 1) := by decide +kernel
theorem dX1_seat_41 : decode cX1_seat 41 = .ok (.iload_n 1, 1) := by decide +kernel
theorem dX1_seat_42 : decode cX1_seat 42 = .ok (.invokevirtual 149, 3) := by decide +kernel
theorem dX1_seat_45 : decode cX1_seat 45 = .ok (.ireturn, 1) := by decide +kernel
theorem dX1_seat_46 : decode cX1_seat 46 = .ok (.aload_n 0, 1) := by decide +kernel
theorem dX1_seat_47 : decode cX1_seat 47 = .ok (.iload_n 1, 1) := by decide +kernel
theorem dX1_seat_48 : decode cX1_seat 48 = .ok (.invokevirtual 152, 3) := by decide +kernel
theorem dX1_seat_51 : decode cX1_seat 51 = .ok (.ireturn, 1) := by decide +kernel
theorem dX1_seat_52 : decode cX1_seat 52 = .ok (.aload_n 0, 1) := by decide +kernel
theorem dX1_seat_53 : decode cX1_seat 53 = .ok (.iload_n 1, 1) := by decide +kernel
theorem dX1_seat_54 : decode cX1_seat 54 = .ok (.invokevirtual 155, 3) := by decide +kernel
theorem dX1_seat_57 : decode cX1_seat 57 = .ok (.ifCond .eq 7, 3) := by decide +kernel
theorem dX1_seat_60 : decode cX1_seat 60 = .ok (.iconst 1, 1) := by decide +kernel
theorem dX1_seat_61 : decode cX1_seat 61 = .ok (.goto 4, 3) := by decide +kernel
theorem dX1_seat_64 : decode cX1_seat 64 = .ok (.iconst 0, 1) := by decide +kernel
theorem dX1_seat_65 : decode cX1_seat 65 = .ok (.ireturn, 1) := by decide +kernel
theorem dX1_seat_66 : decode cX1_seat 66 = .ok (.aload_n 0, 1) := by decide +kernel
theorem dX1_seat_67 : decode cX1_seat 67 = .ok (.aload_n 0, 1) := by decide +kernel
theorem dX1_seat_68 : decode cX1_seat 68 = .ok (.iload_n 1, 1) := by decide +kernel
theorem dX1_seat_69 : decode cX1_seat 69 = .ok (.invokevirtual 149, 3) := by decide +kernel
theorem dX1_seat_72 : decode cX1_seat 72 = .ok (.invokevirtual 158, 3) := by decide +kernel
theorem dX1_seat_75 : decode cX1_seat 75 = .ok (.ifCond .eq 7, 3) := by decide +kernel
theorem dX1_seat_78 : decode cX1_seat 78 = .ok (.iconst 1, 1) := by decide +kernel
theorem dX1_seat_79 : decode cX1_seat 79 = .ok (.goto 4, 3) := by decide +kernel
theorem dX1_seat_82 : decode cX1_seat 82 = .ok (.iconst 0, 1) := by decide +kernel
theorem dX1_seat_83 : decode cX1_seat 83 = .ok (.ireturn, 1) := by decide +kernel
theorem dX1_seat_84 : decode cX1_seat 84 = .ok (.aload_n 0, 1) := by decide +kernel
theorem dX1_seat_85 : decode cX1_seat 85 = .ok (.iload_n 1, 1) := by decide +kernel
theorem dX1_seat_86 : decode cX1_seat 86 = .ok (.invokevirtual 161, 3) := by decide +kernel
theorem dX1_seat_89 : decode cX1_seat 89 = .ok (.ireturn, 1) := by decide +kernel
set_option maxRecDepth 20000 in
theorem ggX1_sees_X1_requireWatcher : GoodIn wsX1_sees wsX1_requireWatcher := goodIn_ca (goodIn_r _ [5, 6, 7, 8, 93, 94, 95, 96, 97, 98, 99, 100, 101, 102, 103] (by decide +kernel) (by decide +kernel)) (goodIn_sub (fun _ h => List.mem_cons_of_mem _ (List.mem_append_right _ h)) (by decide +kernel))
set_option maxRecDepth 20000 in
theorem gX1_sees_X1_requireWatcher : GoodIn wsX1_sees (wsV RX1 106 RX1 yX1_requireWatcher wsX1_requireWatcher) := goodIn_app (goodIn_of _ (by decide +kernel)) ggX1_sees_X1_requireWatcher
set_option maxRecDepth 20000 in
theorem ggX1_sees_X1_cellOfWatcher : GoodIn wsX1_sees wsX1_cellOfWatcher := goodIn_r _ [12, 13, 93, 94, 95, 96, 97, 98, 99, 100, 101, 102, 103] (by decide +kernel) (by decide +kernel)
set_option maxRecDepth 20000 in
theorem gX1_sees_X1_cellOfWatcher : GoodIn wsX1_sees (wsV RX1 149 RX1 yX1_cellOfWatcher wsX1_cellOfWatcher) := goodIn_app (goodIn_of _ (by decide +kernel)) ggX1_sees_X1_cellOfWatcher
set_option maxRecDepth 20000 in
theorem ggX1_sees_X1_isSeenBy : GoodIn wsX1_sees wsX1_isSeenBy := goodIn_r _ [17, 18, 19, 20, 4, 21, 22, 23, 24, 25, 26, 9, 10, 11, 12, 13, 27, 28, 29, 30, 31, 32, 33, 34, 35, 36, 37, 38, 39, 40, 41, 42, 43, 44, 45, 46, 47, 48, 49, 50, 51, 52, 53, 54, 55, 56, 57, 58, 59, 60, 61, 62, 63, 64, 65, 66, 67, 68, 69, 70, 71, 72, 73, 74, 75, 76, 77, 78, 79, 80, 81, 82, 83, 84, 85, 86, 87, 88, 89, 90, 91, 92, 93, 94, 95, 96, 97, 98, 99, 100, 101, 102, 103, 104, 105, 106, 107, 108, 109, 110, 111, 112] (by decide +kernel) (by decide +kernel)
set_option maxRecDepth 20000 in
theorem gX1_sees_X1_isSeenBy : GoodIn wsX1_sees (wsV RX1 164 RX1 yX1_isSeenBy wsX1_isSeenBy) := goodIn_app (goodIn_of _ (by decide +kernel)) ggX1_sees_X1_isSeenBy
theorem dX1_sees_0 : decode cX1_sees 0 = .ok (.aload_n 0, 1) := by decide +kernel
theorem dX1_sees_1 : decode cX1_sees 1 = .ok (.iload_n 1, 1) := by decide +kernel
theorem dX1_sees_2 : decode cX1_sees 2 = .ok (.invokevirtual 106, 3) := by decide +kernel
theorem dX1_sees_5 : decode cX1_sees 5 = .ok (.aload_n 0, 1) := by decide +kernel
theorem dX1_sees_6 : decode cX1_sees 6 = .ok (.iload_n 2, 1) := by decide +kernel
theorem dX1_sees_7 : decode cX1_sees 7 = .ok (.invokevirtual 106, 3) := by decide +kernel
theorem dX1_sees_10 : decode cX1_sees 10 = .ok (.aload_n 0, 1) := by decide +kernel
theorem dX1_sees_11 : decode cX1_sees 11 = .ok (.iload_n 1, 1) := by decide +kernel
theorem dX1_sees_12 : decode cX1_sees 12 = .ok (.aload_n 0, 1) := by decide +kernel
theorem dX1_sees_13 : decode cX1_sees 13 = .ok (.iload_n 2, 1) := by decide +kernel
theorem dX1_sees_14 : decode cX1_sees 14 = .ok (.invokevirtual 149, 3) := by decide +kernel
theorem dX1_sees_17 : decode cX1_sees 17 = .ok (.invokevirtual 164, 3) := by decide +kernel
theorem dX1_sees_20 : decode cX1_sees 20 = .ok (.ireturn, 1) := by decide +kernel
set_option maxRecDepth 20000 in
theorem ggX1_count_X1_requireWhat : GoodIn wsX1_count wsX1_requireWhat := goodIn_ca (goodIn_r _ [7, 8, 9] (by decide +kernel) (by decide +kernel)) (goodIn_sub (fun _ h => List.mem_cons_of_mem _ (List.mem_append_right _ h)) (by decide +kernel))
set_option maxRecDepth 20000 in
theorem gX1_count_X1_requireWhat : GoodIn wsX1_count (va_wsS RX1 120 yX1_requireWhat wsX1_requireWhat) := goodIn_app (goodIn_of _ (by decide +kernel)) ggX1_count_X1_requireWhat
set_option maxRecDepth 20000 in
theorem ggX1_count_X1_cellsNotOpen : GoodIn wsX1_count wsX1_cellsNotOpen := goodIn_r _ [13, 14, 15, 16, 6, 17, 18, 141, 142, 143, 144, 145, 146, 147, 148, 149, 150, 151] (by decide +kernel) (by decide +kernel)
set_option maxRecDepth 20000 in
theorem gX1_count_X1_cellsNotOpen : GoodIn wsX1_count (wsV RX1 168 RX1 yX1_cellsNotOpen wsX1_cellsNotOpen) := goodIn_app (goodIn_of _ (by decide +kernel)) ggX1_count_X1_cellsNotOpen
set_option maxRecDepth 20000 in
theorem ggX1_count_X1_litCells : GoodIn wsX1_count wsX1_litCells := goodIn_r _ [22, 23, 24, 25, 6, 26, 27, 28, 29, 30, 31, 141, 142, 143, 144, 145, 146, 147, 148, 149, 150, 151] (by decide +kernel) (by decide +kernel)
set_option maxRecDepth 20000 in
theorem gX1_count_X1_litCells : GoodIn wsX1_count (wsV RX1 89 RX1 yX1_litCells wsX1_litCells) := goodIn_app (goodIn_of _ (by decide +kernel)) ggX1_count_X1_litCells
set_option maxRecDepth 20000 in
theorem ggX1_count_X1_edgesOfLight : GoodIn wsX1_count wsX1_edgesOfLight := goodIn_r _ [35, 36, 37, 6, 38, 39, 40, 41, 42, 43, 44, 23, 24, 25, 26, 27, 28, 29, 30, 31, 141, 142, 143, 144, 145, 146, 147, 148, 149, 150, 151] (by decide +kernel) (by decide +kernel)
set_option maxRecDepth 20000 in
theorem gX1_count_X1_edgesOfLight : GoodIn wsX1_count (wsV RX1 171 RX1 yX1_edgesOfLight wsX1_edgesOfLight) := goodIn_app (goodIn_of _ (by decide +kernel)) ggX1_count_X1_edgesOfLight
set_option maxRecDepth 20000 in
theorem ggX1_count_X1_hiddenWatchers : GoodIn wsX1_count wsX1_hiddenWatchers := goodIn_r _ [48, 2, 49, 50, 51, 6, 52, 53, 54, 55, 56, 57, 58, 59, 60, 61, 23, 24, 25, 26, 27, 28, 29, 30, 31, 62, 63, 64, 65, 66, 67, 68, 69, 70, 71, 72, 73, 74, 75, 76, 77, 78, 79, 80, 81, 82, 83, 84, 43, 44, 40, 41, 85, 86, 87, 88, 89, 90, 91, 92, 93, 94, 95, 96, 97, 98, 99, 100, 101, 102, 103, 104, 105, 106, 107, 108, 109, 110, 14, 15, 16, 17, 18, 111, 112, 113, 114, 115, 116, 117, 118, 141, 142, 143, 144, 145, 146, 147, 148, 149, 150, 151, 152, 153, 154, 155, 156, 157, 158, 159, 160] (by decide +kernel) (by decide +kernel)
set_option maxRecDepth 20000 in
theorem gX1_count_X1_hiddenWatchers : GoodIn wsX1_count (wsV RX1 174 RX1 yX1_hiddenWatchers wsX1_hiddenWatchers) := goodIn_app (goodIn_of _ (by decide +kernel)) ggX1_count_X1_hiddenWatchers
set_option maxRecDepth 20000 in
theorem ggX1_count_X1_brightnessOfAll : GoodIn wsX1_count wsX1_brightnessOfAll := goodIn_r _ [122, 123, 124, 125, 6, 126, 1, 127, 77, 78, 79, 128, 129, 130, 27, 28, 29, 30, 31, 131, 132, 133, 134, 135, 42, 43, 44, 39, 40, 41, 136, 137, 138, 139, 140, 141, 142, 143, 144, 145, 146, 147, 148, 149, 150, 151] (by decide +kernel) (by decide +kernel)
set_option maxRecDepth 20000 in
theorem gX1_count_X1_brightnessOfAll : GoodIn wsX1_count (wsV RX1 177 RX1 yX1_brightnessOfAll wsX1_brightnessOfAll) := goodIn_app (goodIn_of _ (by decide +kernel)) ggX1_count_X1_brightnessOfAll
theorem dX1_count_0 : decode cX1_count 0 = .ok (.iload_n 1, 1) := by decide +kernel
theorem dX1_count_1 : decode cX1_count 1 = .ok (.bipush 7, 2) := by decide +kernel
theorem dX1_count_3 : decode cX1_count 3 = .ok (.invokestatic 120, 3) := by decide +kernel
theorem dX1_count_6 : decode cX1_count 6 = .ok (.iload_n 1, 1) := by decide +kernel
theorem dX1_count_7 : decode cX1_count 7 = .ok (.tableswitch 76 0 6 #[41, 46, 51, 56, 61, 66, 71], 41) := by decide +kernel
theorem dX1_count_48 : decode cX1_count 48 = .ok (.aload_n 0, 1) := by decide +kernel
theorem dX1_count_49 : decode cX1_count 49 = .ok (.getfield 63, 3) := by decide +kernel
theorem dX1_count_52 : decode cX1_count 52 = .ok (.ireturn, 1) := by decide +kernel
theorem dX1_count_53 : decode cX1_count 53 = .ok (.aload_n 0, 1) := by decide +kernel
theorem dX1_count_54 : decode cX1_count 54 = .ok (.getfield 99, 3) := by decide +kernel
theorem dX1_count_57 : decode cX1_count 57 = .ok (.ireturn, 1) := by decide +kernel
theorem dX1_count_58 : decode cX1_count 58 = .ok (.aload_n 0, 1) := by decide +kernel
theorem dX1_count_59 : decode cX1_count 59 = .ok (.invokevirtual 168, 3) := by decide +kernel
theorem dX1_count_62 : decode cX1_count 62 = .ok (.ireturn, 1) := by decide +kernel
theorem dX1_count_63 : decode cX1_count 63 = .ok (.aload_n 0, 1) := by decide +kernel
theorem dX1_count_64 : decode cX1_count 64 = .ok (.invokevirtual 89, 3) := by decide +kernel
theorem dX1_count_67 : decode cX1_count 67 = .ok (.ireturn, 1) := by decide +kernel
theorem dX1_count_68 : decode cX1_count 68 = .ok (.aload_n 0, 1) := by decide +kernel
theorem dX1_count_69 : decode cX1_count 69 = .ok (.invokevirtual 171, 3) := by decide +kernel
theorem dX1_count_72 : decode cX1_count 72 = .ok (.ireturn, 1) := by decide +kernel
theorem dX1_count_73 : decode cX1_count 73 = .ok (.aload_n 0, 1) := by decide +kernel
theorem dX1_count_74 : decode cX1_count 74 = .ok (.invokevirtual 174, 3) := by decide +kernel
theorem dX1_count_77 : decode cX1_count 77 = .ok (.ireturn, 1) := by decide +kernel
theorem dX1_count_78 : decode cX1_count 78 = .ok (.aload_n 0, 1) := by decide +kernel
theorem dX1_count_79 : decode cX1_count 79 = .ok (.invokevirtual 177, 3) := by decide +kernel
theorem dX1_count_82 : decode cX1_count 82 = .ok (.ireturn, 1) := by decide +kernel
theorem dX1_count_83 : decode cX1_count 83 = .ok (.aload_n 0, 1) := by decide +kernel
theorem dX1_count_84 : decode cX1_count 84 = .ok (.getfield 117, 3) := by decide +kernel
theorem dX1_count_87 : decode cX1_count 87 = .ok (.ireturn, 1) := by decide +kernel
set_option maxRecDepth 20000 in
theorem ggX1_far_X1_requireCell : GoodIn wsX1_far wsX1_requireCell := goodIn_ca (goodIn_r _ [5, 6, 7] (by decide +kernel) (by decide +kernel)) (goodIn_sub (fun _ h => List.mem_cons_of_mem _ (List.mem_append_right _ h)) (by decide +kernel))
set_option maxRecDepth 20000 in
theorem gX1_far_X1_requireCell : GoodIn wsX1_far (va_wsS RX1 180 yX1_requireCell wsX1_requireCell) := goodIn_app (goodIn_of _ (by decide +kernel)) ggX1_far_X1_requireCell
set_option maxRecDepth 20000 in
theorem ggX1_far_X0_begin : GoodIn wsX1_far wsX0_begin := goodIn_r _ [12, 13, 14, 15, 16, 17, 18, 19, 20, 21, 22, 23, 24, 25, 26, 4, 27, 28, 29, 30, 31, 32, 33, 53, 54, 55, 56, 57, 58, 59, 60, 61] (by decide +kernel) (by decide +kernel)
set_option maxRecDepth 20000 in
theorem gX1_far_X0_begin : GoodIn wsX1_far (wsV RX1 183 RX0 yX0_begin wsX0_begin) := goodIn_app (goodIn_of _ (by decide +kernel)) ggX1_far_X0_begin
set_option maxRecDepth 20000 in
theorem ggX1_far_X0_goesOn : GoodIn wsX1_far wsX0_goesOn := goodIn_r _ [37, 23, 21, 24, 22, 53, 54, 55, 56, 57, 58, 59, 60, 61] (by decide +kernel) (by decide +kernel)
set_option maxRecDepth 20000 in
theorem gX1_far_X0_goesOn : GoodIn wsX1_far (wsV RX1 186 RX0 yX0_goesOn wsX0_goesOn) := goodIn_app (goodIn_of _ (by decide +kernel)) ggX1_far_X0_goesOn
set_option maxRecDepth 20000 in
theorem ggX1_far_X0_step : GoodIn wsX1_far wsX0_step := goodIn_r _ [41, 23, 22, 24, 21, 25, 13, 15, 14, 16, 53, 54, 55, 56, 57, 58, 59, 60, 61] (by decide +kernel) (by decide +kernel)
set_option maxRecDepth 20000 in
theorem gX1_far_X0_step : GoodIn wsX1_far (wsV RX1 190 RX0 yX0_step wsX0_step) := goodIn_app (goodIn_of _ (by decide +kernel)) ggX1_far_X0_step
theorem dX1_far_0 : decode cX1_far 0 = .ok (.iload_n 1, 1) := by decide +kernel
theorem dX1_far_1 : decode cX1_far 1 = .ok (.invokestatic 180, 3) := by decide +kernel
theorem dX1_far_4 : decode cX1_far 4 = .ok (.iload_n 2, 1) := by decide +kernel
theorem dX1_far_5 : decode cX1_far 5 = .ok (.invokestatic 180, 3) := by decide +kernel
theorem dX1_far_8 : decode cX1_far 8 = .ok (.iconst 0, 1) := by decide +kernel
theorem dX1_far_9 : decode cX1_far 9 = .ok (.istore_n 3, 1) := by decide +kernel
theorem dX1_far_10 : decode cX1_far 10 = .ok (.aload_n 0, 1) := by decide +kernel
theorem dX1_far_11 : decode cX1_far 11 = .ok (.getfield 34, 3) := by decide +kernel
theorem dX1_far_14 : decode cX1_far 14 = .ok (.iload_n 1, 1) := by decide +kernel
theorem dX1_far_15 : decode cX1_far 15 = .ok (.iload_n 2, 1) := by decide +kernel
theorem dX1_far_16 : decode cX1_far 16 = .ok (.invokevirtual 183, 3) := by decide +kernel
theorem dX1_far_19 : decode cX1_far 19 = .ok (.iload_n 3, 1) := by decide +kernel
theorem dX1_far_20 : decode cX1_far 20 = .ok (.bipush 22, 2) := by decide +kernel
theorem dX1_far_22 : decode cX1_far 22 = .ok (.if_icmp .ge 26, 3) := by decide +kernel
theorem dX1_far_25 : decode cX1_far 25 = .ok (.aload_n 0, 1) := by decide +kernel
theorem dX1_far_26 : decode cX1_far 26 = .ok (.getfield 34, 3) := by decide +kernel
theorem dX1_far_29 : decode cX1_far 29 = .ok (.invokevirtual 186, 3) := by decide +kernel
theorem dX1_far_32 : decode cX1_far 32 = .ok (.ifCond .eq 16, 3) := by decide +kernel
theorem dX1_far_35 : decode cX1_far 35 = .ok (.aload_n 0, 1) := by decide +kernel
theorem dX1_far_36 : decode cX1_far 36 = .ok (.getfield 34, 3) := by decide +kernel
theorem dX1_far_39 : decode cX1_far 39 = .ok (.invokevirtual 190, 3) := by decide +kernel
theorem dX1_far_42 : decode cX1_far 42 = .ok (.iinc 3 1, 3) := by decide +kernel
theorem dX1_far_45 : decode cX1_far 45 = .ok (.goto (-26), 3) := by decide +kernel
theorem dX1_far_48 : decode cX1_far 48 = .ok (.iload_n 3, 1) := by decide +kernel
theorem dX1_far_49 : decode cX1_far 49 = .ok (.ireturn, 1) := by decide +kernel
set_option maxRecDepth 20000 in
theorem ggX1_stops_X1_requireCell : GoodIn wsX1_stops wsX1_requireCell := goodIn_ca (goodIn_r _ [4, 5, 6] (by decide +kernel) (by decide +kernel)) (goodIn_sub (fun _ h => List.mem_cons_of_mem _ (List.mem_append_right _ h)) (by decide +kernel))
set_option maxRecDepth 20000 in
theorem gX1_stops_X1_requireCell : GoodIn wsX1_stops (va_wsS RX1 180 yX1_requireCell wsX1_requireCell) := goodIn_app (goodIn_of _ (by decide +kernel)) ggX1_stops_X1_requireCell
set_option maxRecDepth 20000 in
theorem ggX1_stops_X1_stoppedBetween : GoodIn wsX1_stops wsX1_stoppedBetween := goodIn_r _ [10, 11, 12, 13, 14, 15, 16, 17, 18, 19, 20, 21, 22, 23, 24, 25, 26, 27, 28, 29, 30, 3, 31, 32, 33, 34, 35, 36, 37, 38, 39, 40, 41, 42, 43, 44, 45, 46, 47, 48, 49, 50, 51, 52, 53, 54, 55, 56, 57, 58, 59, 60, 61, 62, 63, 64, 65, 66, 67, 68, 69, 70, 71, 72, 73, 74, 75, 76, 77, 78, 79, 80, 81, 82, 83, 84, 85, 86, 87, 88, 89, 90, 91, 92] (by decide +kernel) (by decide +kernel)
set_option maxRecDepth 20000 in
theorem gX1_stops_X1_stoppedBetween : GoodIn wsX1_stops (wsV RX1 193 RX1 yX1_stoppedBetween wsX1_stoppedBetween) := goodIn_app (goodIn_of _ (by decide +kernel)) ggX1_stops_X1_stoppedBetween
theorem dX1_stops_0 : decode cX1_stops 0 = .ok (.iload_n 1, 1) := by decide +kernel
theorem dX1_stops_1 : decode cX1_stops 1 = .ok (.invokestatic 180, 3) := by decide +kernel
theorem dX1_stops_4 : decode cX1_stops 4 = .ok (.iload_n 2, 1) := by decide +kernel
theorem dX1_stops_5 : decode cX1_stops 5 = .ok (.invokestatic 180, 3) := by decide +kernel
theorem dX1_stops_8 : decode cX1_stops 8 = .ok (.aload_n 0, 1) := by decide +kernel
theorem dX1_stops_9 : decode cX1_stops 9 = .ok (.iload_n 1, 1) := by decide +kernel
theorem dX1_stops_10 : decode cX1_stops 10 = .ok (.iload_n 2, 1) := by decide +kernel
theorem dX1_stops_11 : decode cX1_stops 11 = .ok (.invokevirtual 193, 3) := by decide +kernel
theorem dX1_stops_14 : decode cX1_stops 14 = .ok (.ireturn, 1) := by decide +kernel
set_option maxRecDepth 20000 in
theorem ggX1_creeps_X1_requireWatcher : GoodIn wsX1_creeps wsX1_requireWatcher := goodIn_ca (goodIn_r _ [5, 6, 7, 8, 65, 66, 67, 68, 69, 70, 71, 72, 73, 74, 75] (by decide +kernel) (by decide +kernel)) (goodIn_sub (fun _ h => List.mem_cons_of_mem _ (List.mem_append_right _ h)) (by decide +kernel))
set_option maxRecDepth 20000 in
theorem gX1_creeps_X1_requireWatcher : GoodIn wsX1_creeps (wsV RX1 106 RX1 yX1_requireWatcher wsX1_requireWatcher) := goodIn_app (goodIn_of _ (by decide +kernel)) ggX1_creeps_X1_requireWatcher
set_option maxRecDepth 20000 in
theorem ggX1_creeps_X1_requirePlace : GoodIn wsX1_creeps wsX1_requirePlace := goodIn_ca (goodIn_r _ [11, 6, 7] (by decide +kernel) (by decide +kernel)) (goodIn_sub (fun _ h => List.mem_cons_of_mem _ (List.mem_append_right _ h)) (by decide +kernel))
set_option maxRecDepth 20000 in
theorem gX1_creeps_X1_requirePlace : GoodIn wsX1_creeps (va_wsS RX1 38 yX1_requirePlace wsX1_requirePlace) := goodIn_app (goodIn_of _ (by decide +kernel)) ggX1_creeps_X1_requirePlace
set_option maxRecDepth 20000 in
theorem ggX1_creeps_X1_cellAt : GoodIn wsX1_creeps wsX1_cellAt := goodIn_r _ [14] (by decide +kernel) (by decide +kernel)
set_option maxRecDepth 20000 in
theorem gX1_creeps_X1_cellAt : GoodIn wsX1_creeps (va_wsS RX1 46 yX1_cellAt wsX1_cellAt) := goodIn_app (goodIn_of _ (by decide +kernel)) ggX1_creeps_X1_cellAt
set_option maxRecDepth 20000 in
theorem ggX1_creeps_X1_stepsTo : GoodIn wsX1_creeps wsX1_stepsTo := goodIn_r _ [18, 19, 20, 21, 4, 22, 23, 24, 25, 26, 27, 28, 29, 30, 31, 32, 33, 34, 35, 36, 37, 38, 39, 40, 41, 42, 43, 44, 45, 46, 47, 48, 49, 50, 51, 52, 53, 54, 55, 56, 57, 58, 59, 60, 61, 62, 63, 64, 65, 66, 67, 68, 69, 70, 71, 72, 73, 74, 75] (by decide +kernel) (by decide +kernel)
set_option maxRecDepth 20000 in
theorem gX1_creeps_X1_stepsTo : GoodIn wsX1_creeps (wsV RX1 109 RX1 yX1_stepsTo wsX1_stepsTo) := goodIn_app (goodIn_of _ (by decide +kernel)) ggX1_creeps_X1_stepsTo
theorem dX1_creeps_0 : decode cX1_creeps 0 = .ok (.aload_n 0, 1) := by decide +kernel
theorem dX1_creeps_1 : decode cX1_creeps 1 = .ok (.iload_n 1, 1) := by decide +kernel
theorem dX1_creeps_2 : decode cX1_creeps 2 = .ok (.invokevirtual 106, 3) := by decide +kernel
theorem dX1_creeps_5 : decode cX1_creeps 5 = .ok (.iload_n 2, 1) := by decide +kernel
theorem dX1_creeps_6 : decode cX1_creeps 6 = .ok (.iload_n 3, 1) := by decide +kernel
theorem dX1_creeps_7 : decode cX1_creeps 7 = .ok (.invokestatic 38, 3) := by decide +kernel
theorem dX1_creeps_10 : decode cX1_creeps 10 = .ok (.aload_n 0, 1) := by decide +kernel
theorem dX1_creeps_11 : decode cX1_creeps 11 = .ok (.iload_n 1, 1) := by decide +kernel
theorem dX1_creeps_12 : decode cX1_creeps 12 = .ok (.iload_n 2, 1) := by decide +kernel
theorem dX1_creeps_13 : decode cX1_creeps 13 = .ok (.iload_n 3, 1) := by decide +kernel
theorem dX1_creeps_14 : decode cX1_creeps 14 = .ok (.invokestatic 46, 3) := by decide +kernel
theorem dX1_creeps_17 : decode cX1_creeps 17 = .ok (.invokevirtual 109, 3) := by decide +kernel
theorem dX1_creeps_20 : decode cX1_creeps 20 = .ok (.ireturn, 1) := by decide +kernel
set_option maxRecDepth 20000 in
theorem ggX1_would_X1_requirePlace : GoodIn wsX1_would wsX1_requirePlace := goodIn_ca (goodIn_r _ [4, 5, 6] (by decide +kernel) (by decide +kernel)) (goodIn_sub (fun _ h => List.mem_cons_of_mem _ (List.mem_append_left _ (List.mem_append_right _ h))) (by decide +kernel))
set_option maxRecDepth 20000 in
theorem gX1_would_X1_requirePlace : GoodIn wsX1_would (va_wsS RX1 38 yX1_requirePlace wsX1_requirePlace) := goodIn_app (goodIn_of _ (by decide +kernel)) ggX1_would_X1_requirePlace
set_option maxRecDepth 20000 in
theorem ggX1_would_X1_requireKind : GoodIn wsX1_would wsX1_requireKind := goodIn_ca (goodIn_r _ [9, 10, 11] (by decide +kernel) (by decide +kernel)) (goodIn_sub (fun _ h => List.mem_cons_of_mem _ (List.mem_append_right _ h)) (by decide +kernel))
set_option maxRecDepth 20000 in
theorem gX1_would_X1_requireKind : GoodIn wsX1_would (va_wsS RX1 42 yX1_requireKind wsX1_requireKind) := goodIn_app (goodIn_of _ (by decide +kernel)) ggX1_would_X1_requireKind
set_option maxRecDepth 20000 in
theorem ggX1_would_X1_cellAt : GoodIn wsX1_would wsX1_cellAt := goodIn_r _ [14] (by decide +kernel) (by decide +kernel)
set_option maxRecDepth 20000 in
theorem gX1_would_X1_cellAt : GoodIn wsX1_would (va_wsS RX1 46 yX1_cellAt wsX1_cellAt) := goodIn_app (goodIn_of _ (by decide +kernel)) ggX1_would_X1_cellAt
set_option maxRecDepth 20000 in
theorem ggX1_would_X1_kindOf : GoodIn wsX1_would wsX1_kindOf := goodIn_r _ [18, 19, 121, 122, 123, 124, 125, 126, 127, 128, 129, 130, 131] (by decide +kernel) (by decide +kernel)
set_option maxRecDepth 20000 in
theorem gX1_would_X1_kindOf : GoodIn wsX1_would (wsV RX1 50 RX1 yX1_kindOf wsX1_kindOf) := goodIn_app (goodIn_of _ (by decide +kernel)) ggX1_would_X1_kindOf
set_option maxRecDepth 20000 in
theorem ggX1_would_X1_putKind : GoodIn wsX1_would wsX1_putKind := goodIn_r _ [23, 19, 121, 122, 123, 124, 125, 126, 127, 128, 129, 130, 131] (by decide +kernel) (by decide +kernel)
set_option maxRecDepth 20000 in
theorem gX1_would_X1_putKind : GoodIn wsX1_would (wsV RX1 54 RX1 yX1_putKind wsX1_putKind) := goodIn_app (goodIn_of _ (by decide +kernel)) ggX1_would_X1_putKind
set_option maxRecDepth 20000 in
theorem ggX1_would_X1_litCellsAnew : GoodIn wsX1_would wsX1_litCellsAnew := goodIn_r _ [27, 28, 29, 30, 3, 31, 32, 33, 34, 35, 36, 37, 38, 39, 40, 41, 42, 43, 44, 45, 46, 47, 48, 49, 50, 51, 52, 53, 54, 55, 56, 57, 58, 59, 60, 61, 62, 63, 64, 65, 66, 67, 68, 69, 70, 71, 72, 73, 74, 75, 76, 77, 78, 79, 80, 81, 82, 83, 84, 85, 86, 87, 88, 89, 90, 91, 92, 93, 94, 95, 13, 14, 96, 97, 98, 99, 15, 16, 17, 18, 19, 100, 101, 102, 103, 104, 105, 106, 107, 121, 122, 123, 124, 125, 126, 127, 128, 129, 130, 131, 132, 133, 134, 135, 136, 137, 138, 139, 140] (by decide +kernel) (by decide +kernel)
set_option maxRecDepth 20000 in
theorem gX1_would_X1_litCellsAnew : GoodIn wsX1_would (wsV RX1 196 RX1 yX1_litCellsAnew wsX1_litCellsAnew) := goodIn_app (goodIn_of _ (by decide +kernel)) ggX1_would_X1_litCellsAnew
set_option maxRecDepth 20000 in
theorem ggX1_would_X1_litCells : GoodIn wsX1_would wsX1_litCells := goodIn_r _ [111, 112, 113, 114, 3, 115, 116, 117, 118, 119, 120, 121, 122, 123, 124, 125, 126, 127, 128, 129, 130, 131] (by decide +kernel) (by decide +kernel)
set_option maxRecDepth 20000 in
theorem gX1_would_X1_litCells : GoodIn wsX1_would (wsV RX1 89 RX1 yX1_litCells wsX1_litCells) := goodIn_app (goodIn_of _ (by decide +kernel)) ggX1_would_X1_litCells
theorem dX1_would_0 : decode cX1_would 0 = .ok (.iload_n 1, 1) := by decide +kernel
theorem dX1_would_1 : decode cX1_would 1 = .ok (.iload_n 2, 1) := by decide +kernel
theorem dX1_would_2 : decode cX1_would 2 = .ok (.invokestatic 38, 3) := by decide +kernel
theorem dX1_would_5 : decode cX1_would 5 = .ok (.iload_n 3, 1) := by decide +kernel
theorem dX1_would_6 : decode cX1_would 6 = .ok (.invokestatic 42, 3) := by decide +kernel
theorem dX1_would_9 : decode cX1_would 9 = .ok (.iload_n 1, 1) := by decide +kernel
theorem dX1_would_10 : decode cX1_would 10 = .ok (.iload_n 2, 1) := by decide +kernel
theorem dX1_would_11 : decode cX1_would 11 = .ok (.invokestatic 46, 3) := by decide +kernel
theorem dX1_would_14 : decode cX1_would 14 = .ok (.istore 4, 2) := by decide +kernel
theorem dX1_would_16 : decode cX1_would 16 = .ok (.aload_n 0, 1) := by decide +kernel
theorem dX1_would_17 : decode cX1_would 17 = .ok (.iload 4, 2) := by decide +kernel
theorem dX1_would_19 : decode cX1_would 19 = .ok (.invokevirtual 50, 3) := by decide +kernel
theorem dX1_would_22 : decode cX1_would 22 = .ok (.istore 5, 2) := by decide +kernel
theorem dX1_would_24 : decode cX1_would 24 = .ok (.aload_n 0, 1) := by decide +kernel
theorem dX1_would_25 : decode cX1_would 25 = .ok (.iload 4, 2) := by decide +kernel
theorem dX1_would_27 : decode cX1_would 27 = .ok (.iload_n 3, 1) := by decide +kernel
theorem dX1_would_28 : decode cX1_would 28 = .ok (.invokevirtual 54, 3) := by decide +kernel
theorem dX1_would_31 : decode cX1_would 31 = .ok (.aload_n 0, 1) := by decide +kernel
theorem dX1_would_32 : decode cX1_would 32 = .ok (.invokevirtual 196, 3) := by decide +kernel
theorem dX1_would_35 : decode cX1_would 35 = .ok (.istore 6, 2) := by decide +kernel
theorem dX1_would_37 : decode cX1_would 37 = .ok (.aload_n 0, 1) := by decide +kernel
theorem dX1_would_38 : decode cX1_would 38 = .ok (.iload 4, 2) := by decide +kernel
theorem dX1_would_40 : decode cX1_would 40 = .ok (.iload 5, 2) := by decide +kernel
theorem dX1_would_42 : decode cX1_would 42 = .ok (.invokevirtual 54, 3) := by decide +kernel
theorem dX1_would_45 : decode cX1_would 45 = .ok (.iload 6, 2) := by decide +kernel
theorem dX1_would_47 : decode cX1_would 47 = .ok (.aload_n 0, 1) := by decide +kernel
theorem dX1_would_48 : decode cX1_would 48 = .ok (.invokevirtual 89, 3) := by decide +kernel
theorem dX1_would_51 : decode cX1_would 51 = .ok (.isub, 1) := by decide +kernel
theorem dX1_would_52 : decode cX1_would 52 = .ok (.ireturn, 1) := by decide +kernel
set_option maxRecDepth 20000 in
theorem ggX1_advise_X1_requireLamp : GoodIn wsX1_advise wsX1_requireLamp := goodIn_ca (goodIn_r _ [5, 6, 7, 8, 119, 120, 121, 122, 123, 124, 125, 126, 127, 128, 129] (by decide +kernel) (by decide +kernel)) (goodIn_sub (fun _ h => List.mem_cons_of_mem _ (List.mem_append_right _ h)) (by decide +kernel))
set_option maxRecDepth 20000 in
theorem gX1_advise_X1_requireLamp : GoodIn wsX1_advise (wsV RX1 83 RX1 yX1_requireLamp wsX1_requireLamp) := goodIn_app (goodIn_of _ (by decide +kernel)) ggX1_advise_X1_requireLamp
set_option maxRecDepth 20000 in
theorem ggX1_advise_X1_cellOfLamp : GoodIn wsX1_advise wsX1_cellOfLamp := goodIn_r _ [12, 13, 119, 120, 121, 122, 123, 124, 125, 126, 127, 128, 129] (by decide +kernel) (by decide +kernel)
set_option maxRecDepth 20000 in
theorem gX1_advise_X1_cellOfLamp : GoodIn wsX1_advise (wsV RX1 140 RX1 yX1_cellOfLamp wsX1_cellOfLamp) := goodIn_app (goodIn_of _ (by decide +kernel)) ggX1_advise_X1_cellOfLamp
set_option maxRecDepth 20000 in
theorem ggX1_advise_X1_litCells : GoodIn wsX1_advise wsX1_litCells := goodIn_r _ [17, 18, 19, 20, 4, 21, 22, 23, 24, 25, 26, 119, 120, 121, 122, 123, 124, 125, 126, 127, 128, 129] (by decide +kernel) (by decide +kernel)
set_option maxRecDepth 20000 in
theorem gX1_advise_X1_litCells : GoodIn wsX1_advise (wsV RX1 89 RX1 yX1_litCells wsX1_litCells) := goodIn_app (goodIn_of _ (by decide +kernel)) ggX1_advise_X1_litCells
set_option maxRecDepth 20000 in
theorem ggX1_advise_X1_neighbour : GoodIn wsX1_advise wsX1_neighbour := goodIn_r _ [29, 30, 31, 4, 32, 33, 34, 35] (by decide +kernel) (by decide +kernel)
set_option maxRecDepth 20000 in
theorem gX1_advise_X1_neighbour : GoodIn wsX1_advise (va_wsS RX1 199 yX1_neighbour wsX1_neighbour) := goodIn_app (goodIn_of _ (by decide +kernel)) ggX1_advise_X1_neighbour
set_option maxRecDepth 20000 in
theorem ggX1_advise_X1_isLampAt : GoodIn wsX1_advise wsX1_isLampAt := goodIn_r _ [39, 8, 9, 10, 11, 4, 12, 13, 119, 120, 121, 122, 123, 124, 125, 126, 127, 128, 129] (by decide +kernel) (by decide +kernel)
set_option maxRecDepth 20000 in
theorem gX1_advise_X1_isLampAt : GoodIn wsX1_advise (wsV RX1 74 RX1 yX1_isLampAt wsX1_isLampAt) := goodIn_app (goodIn_of _ (by decide +kernel)) ggX1_advise_X1_isLampAt
set_option maxRecDepth 20000 in
theorem ggX1_advise_X1_litIfCarried : GoodIn wsX1_advise wsX1_litIfCarried := goodIn_r _ [43, 9, 10, 11, 4, 12, 13, 44, 45, 46, 47, 22, 23, 24, 25, 26, 48, 49, 50, 51, 52, 53, 54, 55, 56, 33, 34, 35, 30, 31, 32, 57, 58, 59, 60, 61, 62, 63, 64, 65, 66, 67, 68, 69, 70, 71, 72, 73, 74, 75, 76, 77, 78, 79, 80, 81, 82, 83, 84, 85, 86, 87, 88, 89, 90, 91, 92, 93, 94, 95, 96, 97, 98, 99, 100, 101, 102, 103, 104, 105, 106, 107, 108, 109, 110, 111, 112, 113, 114, 115, 116, 117, 118, 119, 120, 121, 122, 123, 124, 125, 126, 127, 128, 129, 130, 131, 132, 133, 134, 135, 136, 137, 138] (by decide +kernel) (by decide +kernel)
set_option maxRecDepth 20000 in
theorem gX1_advise_X1_litIfCarried : GoodIn wsX1_advise (wsV RX1 202 RX1 yX1_litIfCarried wsX1_litIfCarried) := goodIn_app (goodIn_of _ (by decide +kernel)) ggX1_advise_X1_litIfCarried
theorem dX1_advise_0 : decode cX1_advise 0 = .ok (.aload_n 0, 1) := by decide +kernel
theorem dX1_advise_1 : decode cX1_advise 1 = .ok (.iload_n 1, 1) := by decide +kernel
theorem dX1_advise_2 : decode cX1_advise 2 = .ok (.invokevirtual 83, 3) := by decide +kernel
theorem dX1_advise_5 : decode cX1_advise 5 = .ok (.aload_n 0, 1) := by decide +kernel
theorem dX1_advise_6 : decode cX1_advise 6 = .ok (.iload_n 1, 1) := by decide +kernel
theorem dX1_advise_7 : decode cX1_advise 7 = .ok (.invokevirtual 140, 3) := by decide +kernel
theorem dX1_advise_10 : decode cX1_advise 10 = .ok (.istore_n 2, 1) := by decide +kernel
theorem dX1_advise_11 : decode cX1_advise 11 = .ok (.iconst (-1), 1) := by decide +kernel
theorem dX1_advise_12 : decode cX1_advise 12 = .ok (.istore_n 3, 1) := by decide +kernel
theorem dX1_advise_13 : decode cX1_advise 13 = .ok (.aload_n 0, 1) := by decide +kernel
theorem dX1_advise_14 : decode cX1_advise 14 = .ok (.invokevirtual 89, 3) := by decide +kernel
theorem dX1_advise_17 : decode cX1_advise 17 = .ok (.istore 4, 2) := by decide +kernel
theorem dX1_advise_19 : decode cX1_advise 19 = .ok (.iconst 0, 1) := by decide +kernel
theorem dX1_advise_20 : decode cX1_advise 20 = .ok (.istore 5, 2) := by decide +kernel
theorem dX1_advise_22 : decode cX1_advise 22 = .ok (.iload 5, 2) := by decide +kernel
theorem dX1_advise_24 : decode cX1_advise 24 = .ok (.iconst 4, 1) := by decide +kernel
theorem dX1_advise_25 : decode cX1_advise 25 = .ok (.if_icmp .ge 55, 3) := by decide +kernel
theorem dX1_advise_28 : decode cX1_advise 28 = .ok (.iload_n 2, 1) := by decide +kernel
theorem dX1_advise_29 : decode cX1_advise 29 = .ok (.iload 5, 2) := by decide +kernel
theorem dX1_advise_31 : decode cX1_advise 31 = .ok (.invokestatic 199, 3) := by decide +kernel
theorem dX1_advise_34 : decode cX1_advise 34 = .ok (.istore 6, 2) := by decide +kernel
theorem dX1_advise_36 : decode cX1_advise 36 = .ok (.iload 6, 2) := by decide +kernel
theorem dX1_advise_38 : decode cX1_advise 38 = .ok (.iconst (-1), 1) := by decide +kernel
theorem dX1_advise_39 : decode cX1_advise 39 = .ok (.if_icmp .eq 35, 3) := by decide +kernel
theorem dX1_advise_42 : decode cX1_advise 42 = .ok (.aload_n 0, 1) := by decide +kernel
theorem dX1_advise_43 : decode cX1_advise 43 = .ok (.iload 6, 2) := by decide +kernel
theorem dX1_advise_45 : decode cX1_advise 45 = .ok (.invokevirtual 74, 3) := by decide +kernel
theorem dX1_advise_48 : decode cX1_advise 48 = .ok (.ifCond .ne 26, 3) := by decide +kernel
theorem dX1_advise_51 : decode cX1_advise 51 = .ok (.aload_n 0, 1) := by decide +kernel
theorem dX1_advise_52 : decode cX1_advise 52 = .ok (.iload_n 1, 1) := by decide +kernel
theorem dX1_advise_53 : decode cX1_advise 53 = .ok (.iload 6, 2) := by decide +kernel
theorem dX1_advise_55 : decode cX1_advise 55 = .ok (.invokevirtual 202, 3) := by decide +kernel
theorem dX1_advise_58 : decode cX1_advise 58 = .ok (.istore 7, 2) := by decide +kernel
theorem dX1_advise_60 : decode cX1_advise 60 = .ok (.iload 7, 2) := by decide +kernel
theorem dX1_advise_62 : decode cX1_advise 62 = .ok (.iload 4, 2) := by decide +kernel
theorem dX1_advise_64 : decode cX1_advise 64 = .ok (.if_icmp .le 10, 3) := by decide +kernel
theorem dX1_advise_67 : decode cX1_advise 67 = .ok (.iload 7, 2) := by decide +kernel
theorem dX1_advise_69 : decode cX1_advise 69 = .ok (.istore 4, 2) := by decide +kernel
theorem dX1_advise_71 : decode cX1_advise 71 = .ok (.iload 6, 2) := by decide +kernel
theorem dX1_advise_73 : decode cX1_advise 73 = .ok (.istore_n 3, 1) := by decide +kernel
theorem dX1_advise_74 : decode cX1_advise 74 = .ok (.iinc 5 1, 3) := by decide +kernel
theorem dX1_advise_77 : decode cX1_advise 77 = .ok (.goto (-55), 3) := by decide +kernel
theorem dX1_advise_80 : decode cX1_advise 80 = .ok (.iload_n 3, 1) := by decide +kernel
theorem dX1_advise_81 : decode cX1_advise 81 = .ok (.ireturn, 1) := by decide +kernel
set_option maxRecDepth 20000 in
theorem ggX1_darkest_X1_kindOf : GoodIn wsX1_darkest wsX1_kindOf := goodIn_r _ [5, 6, 48, 49, 50, 51, 52, 53, 54, 55, 56, 57, 58] (by decide +kernel) (by decide +kernel)
set_option maxRecDepth 20000 in
theorem gX1_darkest_X1_kindOf : GoodIn wsX1_darkest (wsV RX1 50 RX1 yX1_kindOf wsX1_kindOf) := goodIn_app (goodIn_of _ (by decide +kernel)) ggX1_darkest_X1_kindOf
set_option maxRecDepth 20000 in
theorem ggX1_darkest_X1_isDarkerThan : GoodIn wsX1_darkest wsX1_isDarkerThan := goodIn_r _ [10, 11, 12, 13, 4, 14, 15, 16, 17, 18, 19, 20, 21, 22, 23, 24, 25, 26, 27, 28, 29, 30, 31, 32, 33, 34, 35, 36, 37, 38, 39, 40, 41, 42, 43, 44, 45, 46, 47, 48, 49, 50, 51, 52, 53, 54, 55, 56, 57, 58] (by decide +kernel) (by decide +kernel)
set_option maxRecDepth 20000 in
theorem gX1_darkest_X1_isDarkerThan : GoodIn wsX1_darkest (wsV RX1 205 RX1 yX1_isDarkerThan wsX1_isDarkerThan) := goodIn_app (goodIn_of _ (by decide +kernel)) ggX1_darkest_X1_isDarkerThan
theorem dX1_darkest_0 : decode cX1_darkest 0 = .ok (.iconst (-1), 1) := by decide +kernel
theorem dX1_darkest_1 : decode cX1_darkest 1 = .ok (.istore_n 1, 1) := by decide +kernel
theorem dX1_darkest_2 : decode cX1_darkest 2 = .ok (.iconst 0, 1) := by decide +kernel
theorem dX1_darkest_3 : decode cX1_darkest 3 = .ok (.istore_n 2, 1) := by decide +kernel
theorem dX1_darkest_4 : decode cX1_darkest 4 = .ok (.iload_n 2, 1) := by decide +kernel
theorem dX1_darkest_5 : decode cX1_darkest 5 = .ok (.sipush 144, 3) := by decide +kernel
theorem dX1_darkest_8 : decode cX1_darkest 8 = .ok (.if_icmp .ge 33, 3) := by decide +kernel
theorem dX1_darkest_11 : decode cX1_darkest 11 = .ok (.aload_n 0, 1) := by decide +kernel
theorem dX1_darkest_12 : decode cX1_darkest 12 = .ok (.iload_n 2, 1) := by decide +kernel
theorem dX1_darkest_13 : decode cX1_darkest 13 = .ok (.invokevirtual 50, 3) := by decide +kernel
theorem dX1_darkest_16 : decode cX1_darkest 16 = .ok (.ifCond .ne 19, 3) := by decide +kernel
theorem dX1_darkest_19 : decode cX1_darkest 19 = .ok (.iload_n 1, 1) := by decide +kernel
theorem dX1_darkest_20 : decode cX1_darkest 20 = .ok (.iconst (-1), 1) := by decide +kernel
theorem dX1_darkest_21 : decode cX1_darkest 21 = .ok (.if_icmp .eq 12, 3) := by decide +kernel
theorem dX1_darkest_24 : decode cX1_darkest 24 = .ok (.aload_n 0, 1) := by decide +kernel
theorem dX1_darkest_25 : decode cX1_darkest 25 = .ok (.iload_n 2, 1) := by decide +kernel
theorem dX1_darkest_26 : decode cX1_darkest 26 = .ok (.iload_n 1, 1) := by decide +kernel
theorem dX1_darkest_27 : decode cX1_darkest 27 = .ok (.invokevirtual 205, 3) := by decide +kernel
theorem dX1_darkest_30 : decode cX1_darkest 30 = .ok (.ifCond .eq 5, 3) := by decide +kernel
theorem dX1_darkest_33 : decode cX1_darkest 33 = .ok (.iload_n 2, 1) := by decide +kernel
theorem dX1_darkest_34 : decode cX1_darkest 34 = .ok (.istore_n 1, 1) := by decide +kernel
theorem dX1_darkest_35 : decode cX1_darkest 35 = .ok (.iinc 2 1, 3) := by decide +kernel
theorem dX1_darkest_38 : decode cX1_darkest 38 = .ok (.goto (-34), 3) := by decide +kernel
theorem dX1_darkest_41 : decode cX1_darkest 41 = .ok (.iload_n 1, 1) := by decide +kernel
theorem dX1_darkest_42 : decode cX1_darkest 42 = .ok (.ireturn, 1) := by decide +kernel
set_option maxRecDepth 20000 in
theorem ggX1_mean_X1_litCells : GoodIn wsX1_mean wsX1_litCells := goodIn_r _ [5, 6, 7, 8, 4, 9, 10, 11, 12, 13, 14, 47, 48, 49, 50, 51, 52, 53, 54, 55, 56, 57] (by decide +kernel) (by decide +kernel)
set_option maxRecDepth 20000 in
theorem gX1_mean_X1_litCells : GoodIn wsX1_mean (wsV RX1 89 RX1 yX1_litCells wsX1_litCells) := goodIn_app (goodIn_of _ (by decide +kernel)) ggX1_mean_X1_litCells
set_option maxRecDepth 20000 in
theorem ggX1_mean_X1_brightnessOfAll : GoodIn wsX1_mean wsX1_brightnessOfAll := goodIn_r _ [18, 19, 20, 21, 4, 22, 23, 24, 25, 26, 27, 28, 29, 30, 10, 11, 12, 13, 14, 31, 32, 33, 34, 35, 36, 37, 38, 39, 40, 41, 42, 43, 44, 45, 46, 47, 48, 49, 50, 51, 52, 53, 54, 55, 56, 57] (by decide +kernel) (by decide +kernel)
set_option maxRecDepth 20000 in
theorem gX1_mean_X1_brightnessOfAll : GoodIn wsX1_mean (wsV RX1 177 RX1 yX1_brightnessOfAll wsX1_brightnessOfAll) := goodIn_app (goodIn_of _ (by decide +kernel)) ggX1_mean_X1_brightnessOfAll
theorem dX1_mean_0 : decode cX1_mean 0 = .ok (.aload_n 0, 1) := by decide +kernel
theorem dX1_mean_1 : decode cX1_mean 1 = .ok (.invokevirtual 89, 3) := by decide +kernel
theorem dX1_mean_4 : decode cX1_mean 4 = .ok (.istore_n 1, 1) := by decide +kernel
theorem dX1_mean_5 : decode cX1_mean 5 = .ok (.iload_n 1, 1) := by decide +kernel
theorem dX1_mean_6 : decode cX1_mean 6 = .ok (.ifCond .ne 5, 3) := by decide +kernel
theorem dX1_mean_9 : decode cX1_mean 9 = .ok (.dconst 0, 1) := by decide +kernel
theorem dX1_mean_10 : decode cX1_mean 10 = .ok (.dreturn, 1) := by decide +kernel
theorem dX1_mean_11 : decode cX1_mean 11 = .ok (.aload_n 0, 1) := by decide +kernel
theorem dX1_mean_12 : decode cX1_mean 12 = .ok (.invokevirtual 177, 3) := by decide +kernel
theorem dX1_mean_15 : decode cX1_mean 15 = .ok (.i2d, 1) := by decide +kernel
theorem dX1_mean_16 : decode cX1_mean 16 = .ok (.iload_n 1, 1) := by decide +kernel
theorem dX1_mean_17 : decode cX1_mean 17 = .ok (.i2d, 1) := by decide +kernel
theorem dX1_mean_18 : decode cX1_mean 18 = .ok (.ddiv, 1) := by decide +kernel
theorem dX1_mean_19 : decode cX1_mean 19 = .ok (.dreturn, 1) := by decide +kernel
set_option maxRecDepth 20000 in
theorem ggX1_digest_X1_count : GoodIn wsX1_digest wsX1_count := goodIn_ca (goodIn_r _ [9, 3, 4, 10, 11, 12, 8, 13, 14, 15, 16, 17, 18, 19, 20, 21, 22, 23, 24, 25, 26, 27, 28, 29, 30, 31, 32, 33, 34, 35, 36, 37, 38, 39, 40, 41, 42, 43, 44, 45, 46, 47, 48, 49, 50, 51, 52, 53, 54, 55, 56, 57, 58, 59, 60, 61, 62, 63, 64, 65, 66, 67, 68, 69, 70, 71, 72, 73, 74, 75, 76, 77, 78, 79, 80, 81, 82, 83, 84, 85, 86, 87, 88, 89, 90, 91, 92, 93, 94, 95, 96, 97, 98, 99, 100, 101, 102, 103, 104, 105, 106, 107, 108, 109, 110, 111, 112, 113, 114, 115, 116, 117, 118, 119, 120, 121, 122, 123, 124, 125, 126, 127, 128, 129, 130, 131, 132, 133, 134, 135, 136, 137, 138, 139, 140, 141, 142, 143, 144, 145, 146, 185, 186, 187, 188, 189, 190, 191, 192, 193, 194, 195, 196, 197, 198, 199, 200, 201, 202, 203, 204] (by decide +kernel) (by decide +kernel)) (goodIn_sub (fun _ h => List.mem_cons_of_mem _ (List.mem_append_right _ h)) (by decide +kernel))
set_option maxRecDepth 20000 in
theorem gX1_digest_X1_count : GoodIn wsX1_digest (wsV RX1 212 RX1 yX1_count wsX1_count) := goodIn_app (goodIn_of _ (by decide +kernel)) ggX1_digest_X1_count
set_option maxRecDepth 20000 in
theorem ggX1_digest_X1_kindOf : GoodIn wsX1_digest wsX1_kindOf := goodIn_r _ [23, 24, 185, 186, 187, 188, 189, 190, 191, 192, 193, 194, 195] (by decide +kernel) (by decide +kernel)
set_option maxRecDepth 20000 in
theorem gX1_digest_X1_kindOf : GoodIn wsX1_digest (wsV RX1 50 RX1 yX1_kindOf wsX1_kindOf) := goodIn_app (goodIn_of _ (by decide +kernel)) ggX1_digest_X1_kindOf
set_option maxRecDepth 20000 in
theorem ggX1_digest_X1_lampsOn : GoodIn wsX1_digest wsX1_lampsOn := goodIn_r _ [36, 37, 185, 186, 187, 188, 189, 190, 191, 192, 193, 194, 195] (by decide +kernel) (by decide +kernel)
set_option maxRecDepth 20000 in
theorem gX1_digest_X1_lampsOn : GoodIn wsX1_digest (wsV RX1 126 RX1 yX1_lampsOn wsX1_lampsOn) := goodIn_app (goodIn_of _ (by decide +kernel)) ggX1_digest_X1_lampsOn
set_option maxRecDepth 20000 in
theorem ggX1_digest_J6_bitCount_0f7a4 : GoodIn wsX1_digest wsJ6_bitCount_0f7a4 := goodIn_r _ [149, 150, 151, 152] (by decide +kernel) (by decide +kernel)
set_option maxRecDepth 20000 in
theorem gX1_digest_J6_bitCount_0f7a4 : GoodIn wsX1_digest (va_wsS RX1 129 yJ6_bitCount_0f7a4 wsJ6_bitCount_0f7a4) := goodIn_app (goodIn_of _ (by decide +kernel)) ggX1_digest_J6_bitCount_0f7a4
set_option maxRecDepth 20000 in
theorem ggX1_digest_X1_about : GoodIn wsX1_digest wsX1_about := goodIn_ca (goodIn_r _ [156, 157, 158, 159, 8, 160, 14, 15, 3, 11, 12, 13, 137, 138, 139, 140, 141, 142, 143, 144, 145, 146, 161, 162, 163, 164, 33, 34, 35, 36, 37, 165, 166, 167, 168, 185, 186, 187, 188, 189, 190, 191, 192, 193, 194, 195] (by decide +kernel) (by decide +kernel)) (goodIn_sub (fun _ h => List.mem_cons_of_mem _ (List.mem_append_right _ h)) (by decide +kernel))
set_option maxRecDepth 20000 in
theorem gX1_digest_X1_about : GoodIn wsX1_digest (wsV RX1 215 RX1 yX1_about wsX1_about) := goodIn_app (goodIn_of _ (by decide +kernel)) ggX1_digest_X1_about
set_option maxRecDepth 20000 in
theorem ggX1_digest_X1_seat : GoodIn wsX1_digest wsX1_seat := goodIn_ca (goodIn_r _ [172, 173, 174, 175, 8, 176, 14, 15, 4, 11, 12, 13, 59, 60, 61, 62, 63, 177, 178, 179, 180, 64, 65, 66, 67, 29, 30, 31, 32, 33, 34, 35, 36, 37, 68, 69, 70, 71, 72, 73, 74, 75, 76, 77, 78, 79, 80, 81, 82, 83, 84, 85, 86, 87, 88, 89, 90, 49, 50, 46, 47, 91, 92, 93, 94, 95, 96, 97, 98, 99, 100, 101, 102, 103, 104, 105, 106, 107, 108, 109, 110, 111, 112, 113, 114, 115, 116, 20, 21, 22, 23, 24, 117, 118, 119, 120, 121, 122, 123, 124, 55, 56, 57, 58, 181, 182, 183, 184, 185, 186, 187, 188, 189, 190, 191, 192, 193, 194, 195, 196, 197, 198, 199, 200, 201, 202, 203, 204] (by decide +kernel) (by decide +kernel)) (goodIn_sub (fun _ h => List.mem_cons_of_mem _ (List.mem_append_right _ h)) (by decide +kernel))
set_option maxRecDepth 20000 in
theorem gX1_digest_X1_seat : GoodIn wsX1_digest (wsV RX1 218 RX1 yX1_seat wsX1_seat) := goodIn_app (goodIn_of _ (by decide +kernel)) ggX1_digest_X1_seat
theorem dX1_digest_0 : decode cX1_digest 0 = .ok (.ldc2_w 208, 3) := by decide +kernel
theorem dX1_digest_3 : decode cX1_digest 3 = .ok (.lstore_n 1, 1) := by decide +kernel
theorem dX1_digest_4 : decode cX1_digest 4 = .ok (.iconst 0, 1) := by decide +kernel
theorem dX1_digest_5 : decode cX1_digest 5 = .ok (.istore_n 3, 1) := by decide +kernel
theorem dX1_digest_6 : decode cX1_digest 6 = .ok (.iload_n 3, 1) := by decide +kernel
theorem dX1_digest_7 : decode cX1_digest 7 = .ok (.bipush 7, 2) := by decide +kernel
theorem dX1_digest_9 : decode cX1_digest 9 = .ok (.if_icmp .gt 22, 3) := by decide +kernel
theorem dX1_digest_12 : decode cX1_digest 12 = .ok (.lload_n 1, 1) := by decide +kernel
theorem dX1_digest_13 : decode cX1_digest 13 = .ok (.ldc2_w 210, 3) := by decide +kernel
theorem dX1_digest_16 : decode cX1_digest 16 = .ok (.lmul, 1) := by decide +kernel
theorem dX1_digest_17 : decode cX1_digest 17 = .ok (.aload_n 0, 1) := by decide +kernel
theorem dX1_digest_18 : decode cX1_digest 18 = .ok (.iload_n 3, 1) := by decide +kernel
theorem dX1_digest_19 : decode cX1_digest 19 = .ok (.invokevirtual 212, 3) := by decide +kernel
theorem dX1_digest_22 : decode cX1_digest 22 = .ok (.i2l, 1) := by decide +kernel
theorem dX1_digest_23 : decode cX1_digest 23 = .ok (.ladd, 1) := by decide +kernel
theorem dX1_digest_24 : decode cX1_digest 24 = .ok (.lstore_n 1, 1) := by decide +kernel
theorem dX1_digest_25 : decode cX1_digest 25 = .ok (.iinc 3 1, 3) := by decide +kernel
theorem dX1_digest_28 : decode cX1_digest 28 = .ok (.goto (-22), 3) := by decide +kernel
theorem dX1_digest_31 : decode cX1_digest 31 = .ok (.iconst 0, 1) := by decide +kernel
theorem dX1_digest_32 : decode cX1_digest 32 = .ok (.istore_n 3, 1) := by decide +kernel
theorem dX1_digest_33 : decode cX1_digest 33 = .ok (.iload_n 3, 1) := by decide +kernel
theorem dX1_digest_34 : decode cX1_digest 34 = .ok (.sipush 144, 3) := by decide +kernel
theorem dX1_digest_37 : decode cX1_digest 37 = .ok (.if_icmp .ge 38, 3) := by decide +kernel
theorem dX1_digest_40 : decode cX1_digest 40 = .ok (.lload_n 1, 1) := by decide +kernel
theorem dX1_digest_41 : decode cX1_digest 41 = .ok (.ldc2_w 210, 3) := by decide +kernel
theorem dX1_digest_44 : decode cX1_digest 44 = .ok (.lmul, 1) := by decide +kernel
theorem dX1_digest_45 : decode cX1_digest 45 = .ok (.aload_n 0, 1) := by decide +kernel
theorem dX1_digest_46 : decode cX1_digest 46 = .ok (.iload_n 3, 1) := by decide +kernel
theorem dX1_digest_47 : decode cX1_digest 47 = .ok (.invokevirtual 50, 3) := by decide +kernel
theorem dX1_digest_50 : decode cX1_digest 50 = .ok (.i2l, 1) := by decide +kernel
theorem dX1_digest_51 : decode cX1_digest 51 = .ok (.ladd, 1) := by decide +kernel
theorem dX1_digest_52 : decode cX1_digest 52 = .ok (.lstore_n 1, 1) := by decide +kernel
theorem dX1_digest_53 : decode cX1_digest 53 = .ok (.lload_n 1, 1) := by decide +kernel
theorem dX1_digest_54 : decode cX1_digest 54 = .ok (.ldc2_w 210, 3) := by decide +kernel
theorem dX1_digest_57 : decode cX1_digest 57 = .ok (.lmul, 1) := by decide +kernel
theorem dX1_digest_58 : decode cX1_digest 58 = .ok (.aload_n 0, 1) := by decide +kernel
theorem dX1_digest_59 : decode cX1_digest 59 = .ok (.iload_n 3, 1) := by decide +kernel
theorem dX1_digest_60 : decode cX1_digest 60 = .ok (.invokevirtual 126, 3) := by decide +kernel
theorem dX1_digest_63 : decode cX1_digest 63 = .ok (.invokestatic 129, 3) := by decide +kernel
theorem dX1_digest_66 : decode cX1_digest 66 = .ok (.i2l, 1) := by decide +kernel
theorem dX1_digest_67 : decode cX1_digest 67 = .ok (.ladd, 1) := by decide +kernel
theorem dX1_digest_68 : decode cX1_digest 68 = .ok (.lstore_n 1, 1) := by decide +kernel
theorem dX1_digest_69 : decode cX1_digest 69 = .ok (.iinc 3 1, 3) := by decide +kernel
theorem dX1_digest_72 : decode cX1_digest 72 = .ok (.goto (-39), 3) := by decide +kernel
theorem dX1_digest_75 : decode cX1_digest 75 = .ok (.iconst 0, 1) := by decide +kernel
theorem dX1_digest_76 : decode cX1_digest 76 = .ok (.istore_n 3, 1) := by decide +kernel
theorem dX1_digest_77 : decode cX1_digest 77 = .ok (.iload_n 3, 1) := by decide +kernel
theorem dX1_digest_78 : decode cX1_digest 78 = .ok (.aload_n 0, 1) := by decide +kernel
theorem dX1_digest_79 : decode cX1_digest 79 = .ok (.getfield 63, 3) := by decide +kernel
theorem dX1_digest_82 : decode cX1_digest 82 = .ok (.if_icmp .ge 39, 3) := by decide +kernel
theorem dX1_digest_85 : decode cX1_digest 85 = .ok (.iconst 0, 1) := by decide +kernel
theorem dX1_digest_86 : decode cX1_digest 86 = .ok (.istore 4, 2) := by decide +kernel
theorem dX1_digest_88 : decode cX1_digest 88 = .ok (.iload 4, 2) := by decide +kernel
theorem dX1_digest_90 : decode cX1_digest 90 = .ok (.iconst 3, 1) := by decide +kernel
theorem dX1_digest_91 : decode cX1_digest 91 = .ok (.if_icmp .gt 24, 3) := by decide +kernel
theorem dX1_digest_94 : decode cX1_digest 94 = .ok (.lload_n 1, 1) := by decide +kernel
theorem dX1_digest_95 : decode cX1_digest 95 = .ok (.ldc2_w 210, 3) := by decide +kernel
theorem dX1_digest_98 : decode cX1_digest 98 = .ok (.lmul, 1) := by decide +kernel
theorem dX1_digest_99 : decode cX1_digest 99 = .ok (.aload_n 0, 1) := by decide +kernel
theorem dX1_digest_100 : decode cX1_digest 100 = .ok (.iload_n 3, 1) := by decide +kernel
theorem dX1_digest_101 : decode cX1_digest 101 = .ok (.iload 4, 2) := by decide +kernel
theorem dX1_digest_103 : decode cX1_digest 103 = .ok (.invokevirtual 215, 3) := by decide +kernel
theorem dX1_digest_106 : decode cX1_digest 106 = .ok (.i2l, 1) := by decide +kernel
theorem dX1_digest_107 : decode cX1_digest 107 = .ok (.ladd, 1) := by decide +kernel
theorem dX1_digest_108 : decode cX1_digest 108 = .ok (.lstore_n 1, 1) := by decide +kernel
theorem dX1_digest_109 : decode cX1_digest 109 = .ok (.iinc 4 1, 3) := by decide +kernel
theorem dX1_digest_112 : decode cX1_digest 112 = .ok (.goto (-24), 3) := by decide +kernel
theorem dX1_digest_115 : decode cX1_digest 115 = .ok (.iinc 3 1, 3) := by decide +kernel
theorem dX1_digest_118 : decode cX1_digest 118 = .ok (.goto (-41), 3) := by decide +kernel
theorem dX1_digest_121 : decode cX1_digest 121 = .ok (.iconst 0, 1) := by decide +kernel
theorem dX1_digest_122 : decode cX1_digest 122 = .ok (.istore_n 3, 1) := by decide +kernel
theorem dX1_digest_123 : decode cX1_digest 123 = .ok (.iload_n 3, 1) := by decide +kernel
theorem dX1_digest_124 : decode cX1_digest 124 = .ok (.aload_n 0, 1) := by decide +kernel
theorem dX1_digest_125 : decode cX1_digest 125 = .ok (.getfield 99, 3) := by decide +kernel
theorem dX1_digest_128 : decode cX1_digest 128 = .ok (.if_icmp .ge 39, 3) := by decide +kernel
theorem dX1_digest_131 : decode cX1_digest 131 = .ok (.iconst 0, 1) := by decide +kernel
theorem dX1_digest_132 : decode cX1_digest 132 = .ok (.istore 4, 2) := by decide +kernel
theorem dX1_digest_134 : decode cX1_digest 134 = .ok (.iload 4, 2) := by decide +kernel
theorem dX1_digest_136 : decode cX1_digest 136 = .ok (.iconst 4, 1) := by decide +kernel
theorem dX1_digest_137 : decode cX1_digest 137 = .ok (.if_icmp .gt 24, 3) := by decide +kernel
theorem dX1_digest_140 : decode cX1_digest 140 = .ok (.lload_n 1, 1) := by decide +kernel
theorem dX1_digest_141 : decode cX1_digest 141 = .ok (.ldc2_w 210, 3) := by decide +kernel
theorem dX1_digest_144 : decode cX1_digest 144 = .ok (.lmul, 1) := by decide +kernel
theorem dX1_digest_145 : decode cX1_digest 145 = .ok (.aload_n 0, 1) := by decide +kernel
theorem dX1_digest_146 : decode cX1_digest 146 = .ok (.iload_n 3, 1) := by decide +kernel
theorem dX1_digest_147 : decode cX1_digest 147 = .ok (.iload 4, 2) := by decide +kernel
theorem dX1_digest_149 : decode cX1_digest 149 = .ok (.invokevirtual 218, 3) := by decide +kernel
theorem dX1_digest_152 : decode cX1_digest 152 = .ok (.i2l, 1) := by decide +kernel
theorem dX1_digest_153 : decode cX1_digest 153 = .ok (.ladd, 1) := by decide +kernel
