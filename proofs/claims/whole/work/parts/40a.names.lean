theorem dL_set_2 : decode cL_set 2 = .ok (.iconst 0, 1) := by decide +kernel
theorem dL_set_3 : decode cL_set 3 = .ok (.aload_n 0, 1) := by decide +kernel
theorem dL_set_4 : decode cL_set 4 = .ok (.iload_n 1, 1) := by decide +kernel
theorem dL_set_5 : decode cL_set 5 = .ok (.iload_n 2, 1) := by decide +kernel
theorem dL_set_6 : decode cL_set 6 = .ok (.iload_n 3, 1) := by decide +kernel
theorem dL_set_7 : decode cL_set 7 = .ok (.invokevirtual 7, 3) := by decide +kernel
theorem dL_set_10 : decode cL_set 10 = .ok (.i2l, 1) := by decide +kernel
theorem dL_set_11 : decode cL_set 11 = .ok (.lastore, 1) := by decide +kernel
theorem dL_set_12 : decode cL_set 12 = .ok (.goto 11, 3) := by decide +kernel
theorem dL_set_15 : decode cL_set 15 = .ok (.astore 5, 2) := by decide +kernel
theorem dL_set_17 : decode cL_set 17 = .ok (.iconst 1, 1) := by decide +kernel
theorem dL_set_18 : decode cL_set 18 = .ok (.ireturn, 1) := by decide +kernel
theorem dL_set_19 : decode cL_set 19 = .ok (.astore 5, 2) := by decide +kernel
theorem dL_set_21 : decode cL_set 21 = .ok (.iconst 2, 1) := by decide +kernel
theorem dL_set_22 : decode cL_set 22 = .ok (.ireturn, 1) := by decide +kernel
theorem dL_set_23 : decode cL_set 23 = .ok (.iconst 0, 1) := by decide +kernel
theorem dL_set_24 : decode cL_set 24 = .ok (.ireturn, 1) := by decide +kernel
set_option maxRecDepth 20000 in
theorem ggL_lamp_X1_lamp : GoodIn wsL_lamp wsX1_lamp := goodIn_ca (goodIn_ca (goodIn_ca (goodIn_r _ [8, 9, 10, 11, 12, 13, 14, 15, 7, 16, 17, 18, 19, 20, 21, 22, 23, 24, 25, 26, 27, 28, 29, 30, 31, 32, 33, 34, 35, 36, 37, 38, 39, 40, 41, 42, 43, 44, 45, 46, 47, 48, 49, 50, 51, 52, 53, 54, 55, 56, 57, 58, 59, 60, 61, 62, 63, 64, 65, 66, 67, 68, 69, 70, 71, 72, 73, 74, 75, 76, 77, 78, 79, 80, 81, 82, 83, 84, 85, 86, 87, 88, 89, 90, 91, 92, 93, 94, 95, 96, 97, 98, 99, 100, 101, 102, 103, 104, 105, 106, 107, 108, 109, 110, 111, 112, 113, 114, 115, 116, 117, 118, 119, 120, 121, 122, 123, 124, 125, 126, 127, 128, 129, 130, 131, 132, 133] (by decide +kernel) (by decide +kernel)) (goodIn_sub (fun _ h => List.mem_cons_of_mem _ (List.mem_append_left _ (List.mem_append_left _ (List.mem_append_right _ h)))) (by decide +kernel))) (goodIn_sub (fun _ h => List.mem_cons_of_mem _ (List.mem_append_left _ (List.mem_append_right _ h))) (by decide +kernel))) (goodIn_sub (fun _ h => List.mem_cons_of_mem _ (List.mem_append_right _ h)) (by decide +kernel))
set_option maxRecDepth 20000 in
theorem gL_lamp_X1_lamp : GoodIn wsL_lamp (wsV RL 17 RX1 yX1_lamp wsX1_lamp) := goodIn_app (goodIn_of _ (by decide +kernel)) ggL_lamp_X1_lamp
theorem dL_lamp_0 : decode cL_lamp 0 = .ok (.aload 4, 2) := by decide +kernel
theorem dL_lamp_2 : decode cL_lamp 2 = .ok (.iconst 0, 1) := by decide +kernel
theorem dL_lamp_3 : decode cL_lamp 3 = .ok (.aload_n 0, 1) := by decide +kernel
theorem dL_lamp_4 : decode cL_lamp 4 = .ok (.iload_n 1, 1) := by decide +kernel
theorem dL_lamp_5 : decode cL_lamp 5 = .ok (.iload_n 2, 1) := by decide +kernel
theorem dL_lamp_6 : decode cL_lamp 6 = .ok (.iload_n 3, 1) := by decide +kernel
theorem dL_lamp_7 : decode cL_lamp 7 = .ok (.invokevirtual 17, 3) := by decide +kernel
theorem dL_lamp_10 : decode cL_lamp 10 = .ok (.i2l, 1) := by decide +kernel
theorem dL_lamp_11 : decode cL_lamp 11 = .ok (.lastore, 1) := by decide +kernel
theorem dL_lamp_12 : decode cL_lamp 12 = .ok (.goto 15, 3) := by decide +kernel
theorem dL_lamp_15 : decode cL_lamp 15 = .ok (.astore 5, 2) := by decide +kernel
theorem dL_lamp_17 : decode cL_lamp 17 = .ok (.iconst 1, 1) := by decide +kernel
theorem dL_lamp_18 : decode cL_lamp 18 = .ok (.ireturn, 1) := by decide +kernel
theorem dL_lamp_19 : decode cL_lamp 19 = .ok (.astore 5, 2) := by decide +kernel
theorem dL_lamp_21 : decode cL_lamp 21 = .ok (.iconst 2, 1) := by decide +kernel
theorem dL_lamp_22 : decode cL_lamp 22 = .ok (.ireturn, 1) := by decide +kernel
theorem dL_lamp_23 : decode cL_lamp 23 = .ok (.astore 5, 2) := by decide +kernel
theorem dL_lamp_25 : decode cL_lamp 25 = .ok (.iconst 3, 1) := by decide +kernel
theorem dL_lamp_26 : decode cL_lamp 26 = .ok (.ireturn, 1) := by decide +kernel
theorem dL_lamp_27 : decode cL_lamp 27 = .ok (.iconst 0, 1) := by decide +kernel
theorem dL_lamp_28 : decode cL_lamp 28 = .ok (.ireturn, 1) := by decide +kernel
set_option maxRecDepth 20000 in
theorem ggL_carry_X1_carry : GoodIn wsL_carry wsX1_carry := goodIn_ca (goodIn_ca (goodIn_r _ [7, 8, 9, 10, 11, 12, 6, 13, 14, 15, 16, 17, 18, 19, 20, 21, 22, 23, 24, 25, 26, 27, 28, 29, 30, 31, 32, 33, 34, 35, 36, 37, 38, 39, 40, 41, 42, 43, 44, 45, 46, 47, 48, 49, 50, 51, 52, 53, 54, 55, 56, 57, 58, 59, 60, 61, 62, 63, 64, 65, 66, 67, 68, 69, 70, 71, 72, 73, 74, 75, 76, 77, 78, 79, 80, 81, 82, 83, 84, 85, 86, 87, 88, 89, 90, 91, 92, 93, 94, 95, 96, 97, 98, 99, 100, 101, 102, 103, 104, 105, 106, 107, 108, 109, 110, 111, 112, 113, 114, 115, 116, 117, 118, 119, 120, 121, 122, 123, 124, 125, 126, 127, 128, 129, 130, 131, 132, 133, 134, 135, 136, 137, 138, 139, 140, 141, 142, 143, 144, 145, 146, 147] (by decide +kernel) (by decide +kernel)) (goodIn_sub (fun _ h => List.mem_cons_of_mem _ (List.mem_append_left _ (List.mem_append_right _ h))) (by decide +kernel))) (goodIn_sub (fun _ h => List.mem_cons_of_mem _ (List.mem_append_right _ h)) (by decide +kernel))
set_option maxRecDepth 20000 in
theorem gL_carry_X1_carry : GoodIn wsL_carry (wsV RL 22 RX1 yX1_carry wsX1_carry) := goodIn_app (goodIn_of _ (by decide +kernel)) ggL_carry_X1_carry
theorem dL_carry_0 : decode cL_carry 0 = .ok (.aload 4, 2) := by decide +kernel
theorem dL_carry_2 : decode cL_carry 2 = .ok (.iconst 0, 1) := by decide +kernel
theorem dL_carry_3 : decode cL_carry 3 = .ok (.aload_n 0, 1) := by decide +kernel
theorem dL_carry_4 : decode cL_carry 4 = .ok (.iload_n 1, 1) := by decide +kernel
theorem dL_carry_5 : decode cL_carry 5 = .ok (.iload_n 2, 1) := by decide +kernel
theorem dL_carry_6 : decode cL_carry 6 = .ok (.iload_n 3, 1) := by decide +kernel
theorem dL_carry_7 : decode cL_carry 7 = .ok (.invokevirtual 22, 3) := by decide +kernel
theorem dL_carry_10 : decode cL_carry 10 = .ok (.i2l, 1) := by decide +kernel
theorem dL_carry_11 : decode cL_carry 11 = .ok (.lastore, 1) := by decide +kernel
theorem dL_carry_12 : decode cL_carry 12 = .ok (.goto 11, 3) := by decide +kernel
theorem dL_carry_15 : decode cL_carry 15 = .ok (.astore 5, 2) := by decide +kernel
theorem dL_carry_17 : decode cL_carry 17 = .ok (.iconst 1, 1) := by decide +kernel
theorem dL_carry_18 : decode cL_carry 18 = .ok (.ireturn, 1) := by decide +kernel
theorem dL_carry_19 : decode cL_carry 19 = .ok (.astore 5, 2) := by decide +kernel
theorem dL_carry_21 : decode cL_carry 21 = .ok (.iconst 2, 1) := by decide +kernel
theorem dL_carry_22 : decode cL_carry 22 = .ok (.ireturn, 1) := by decide +kernel
theorem dL_carry_23 : decode cL_carry 23 = .ok (.iconst 0, 1) := by decide +kernel
theorem dL_carry_24 : decode cL_carry 24 = .ok (.ireturn, 1) := by decide +kernel
set_option maxRecDepth 20000 in
theorem ggL_turn_X1_turn : GoodIn wsL_turn wsX1_turn := goodIn_ca (goodIn_ca (goodIn_r _ [7, 8, 9, 10, 6, 11, 12, 13, 14, 15, 16, 17, 18, 19, 20, 21, 22, 23, 24, 25, 26, 27, 28, 29, 30, 31, 32, 33, 34, 35, 36, 37, 38, 39, 40, 41, 42, 43, 44, 45, 46, 47, 48, 49, 50, 51, 52, 53, 54, 55, 56, 57, 58, 59, 60, 61, 62, 63, 64, 65, 66, 67, 68, 69, 70, 71, 72, 73, 74, 75, 76, 77, 78, 79, 80, 81, 82, 83, 84, 85, 86, 87, 88, 89, 90, 91, 92, 93, 94, 95, 96, 97, 98, 99, 100, 101, 102, 103, 104, 105, 106, 107, 108, 109, 110, 111, 112, 113, 114, 115, 116, 117, 118, 119, 120, 121, 122, 123, 124, 125, 126, 127, 128, 129, 130] (by decide +kernel) (by decide +kernel)) (goodIn_sub (fun _ h => List.mem_cons_of_mem _ (List.mem_append_left _ (List.mem_append_right _ h))) (by decide +kernel))) (goodIn_sub (fun _ h => List.mem_cons_of_mem _ (List.mem_append_right _ h)) (by decide +kernel))
set_option maxRecDepth 20000 in
theorem gL_turn_X1_turn : GoodIn wsL_turn (wsV RL 25 RX1 yX1_turn wsX1_turn) := goodIn_app (goodIn_of _ (by decide +kernel)) ggL_turn_X1_turn
theorem dL_turn_0 : decode cL_turn 0 = .ok (.aload_n 3, 1) := by decide +kernel
theorem dL_turn_1 : decode cL_turn 1 = .ok (.iconst 0, 1) := by decide +kernel
theorem dL_turn_2 : decode cL_turn 2 = .ok (.aload_n 0, 1) := by decide +kernel
theorem dL_turn_3 : decode cL_turn 3 = .ok (.iload_n 1, 1) := by decide +kernel
theorem dL_turn_4 : decode cL_turn 4 = .ok (.iload_n 2, 1) := by decide +kernel
theorem dL_turn_5 : decode cL_turn 5 = .ok (.invokevirtual 25, 3) := by decide +kernel
theorem dL_turn_8 : decode cL_turn 8 = .ok (.i2l, 1) := by decide +kernel
theorem dL_turn_9 : decode cL_turn 9 = .ok (.lastore, 1) := by decide +kernel
theorem dL_turn_10 : decode cL_turn 10 = .ok (.goto 11, 3) := by decide +kernel
theorem dL_turn_13 : decode cL_turn 13 = .ok (.astore 4, 2) := by decide +kernel
theorem dL_turn_15 : decode cL_turn 15 = .ok (.iconst 1, 1) := by decide +kernel
theorem dL_turn_16 : decode cL_turn 16 = .ok (.ireturn, 1) := by decide +kernel
theorem dL_turn_17 : decode cL_turn 17 = .ok (.astore 4, 2) := by decide +kernel
theorem dL_turn_19 : decode cL_turn 19 = .ok (.iconst 2, 1) := by decide +kernel
theorem dL_turn_20 : decode cL_turn 20 = .ok (.ireturn, 1) := by decide +kernel
theorem dL_turn_21 : decode cL_turn 21 = .ok (.iconst 0, 1) := by decide +kernel
theorem dL_turn_22 : decode cL_turn 22 = .ok (.ireturn, 1) := by decide +kernel
set_option maxRecDepth 20000 in
theorem ggL_watcher_X1_watcher : GoodIn wsL_watcher wsX1_watcher := goodIn_ca (goodIn_ca (goodIn_r _ [7, 8, 9, 10, 11, 12, 13, 6, 14, 15, 16, 17, 18, 19, 20, 21, 22, 23, 24, 25, 26, 27, 28, 29, 30, 31, 32, 33, 34, 35] (by decide +kernel) (by decide +kernel)) (goodIn_sub (fun _ h => List.mem_cons_of_mem _ (List.mem_append_left _ (List.mem_append_right _ h))) (by decide +kernel))) (goodIn_sub (fun _ h => List.mem_cons_of_mem _ (List.mem_append_right _ h)) (by decide +kernel))
set_option maxRecDepth 20000 in
theorem gL_watcher_X1_watcher : GoodIn wsL_watcher (wsV RL 29 RX1 yX1_watcher wsX1_watcher) := goodIn_app (goodIn_of _ (by decide +kernel)) ggL_watcher_X1_watcher
theorem dL_watcher_0 : decode cL_watcher 0 = .ok (.aload_n 3, 1) := by decide +kernel
theorem dL_watcher_1 : decode cL_watcher 1 = .ok (.iconst 0, 1) := by decide +kernel
theorem dL_watcher_2 : decode cL_watcher 2 = .ok (.aload_n 0, 1) := by decide +kernel
theorem dL_watcher_3 : decode cL_watcher 3 = .ok (.iload_n 1, 1) := by decide +kernel
theorem dL_watcher_4 : decode cL_watcher 4 = .ok (.iload_n 2, 1) := by decide +kernel
theorem dL_watcher_5 : decode cL_watcher 5 = .ok (.invokevirtual 29, 3) := by decide +kernel
theorem dL_watcher_8 : decode cL_watcher 8 = .ok (.i2l, 1) := by decide +kernel
theorem dL_watcher_9 : decode cL_watcher 9 = .ok (.lastore, 1) := by decide +kernel
theorem dL_watcher_10 : decode cL_watcher 10 = .ok (.goto 11, 3) := by decide +kernel
theorem dL_watcher_13 : decode cL_watcher 13 = .ok (.astore 4, 2) := by decide +kernel
theorem dL_watcher_15 : decode cL_watcher 15 = .ok (.iconst 1, 1) := by decide +kernel
theorem dL_watcher_16 : decode cL_watcher 16 = .ok (.ireturn, 1) := by decide +kernel
theorem dL_watcher_17 : decode cL_watcher 17 = .ok (.astore 4, 2) := by decide +kernel
theorem dL_watcher_19 : decode cL_watcher 19 = .ok (.iconst 2, 1) := by decide +kernel
theorem dL_watcher_20 : decode cL_watcher 20 = .ok (.ireturn, 1) := by decide +kernel
theorem dL_watcher_21 : decode cL_watcher 21 = .ok (.iconst 0, 1) := by decide +kernel
theorem dL_watcher_22 : decode cL_watcher 22 = .ok (.ireturn, 1) := by decide +kernel
set_option maxRecDepth 20000 in
theorem ggL_creep_X1_creep : GoodIn wsL_creep wsX1_creep := goodIn_ca (goodIn_ca (goodIn_r _ [7, 8, 9, 10, 11, 12, 13, 6, 14, 15, 16, 17, 18, 19, 20, 21, 22, 23, 24, 25, 26, 27, 28, 29, 30, 31, 32, 33, 34, 35, 36, 37, 38, 39, 40, 41, 42, 43, 44, 45, 46, 47, 48, 49, 50, 51, 52, 53, 54, 55, 56, 57, 58, 59, 60, 61, 62, 63, 64, 65, 66, 67, 68, 69, 70, 71, 72, 73, 74, 75, 76, 77, 78, 79, 80, 81, 82, 83, 84, 85, 86, 87, 88] (by decide +kernel) (by decide +kernel)) (goodIn_sub (fun _ h => List.mem_cons_of_mem _ (List.mem_append_left _ (List.mem_append_right _ h))) (by decide +kernel))) (goodIn_sub (fun _ h => List.mem_cons_of_mem _ (List.mem_append_right _ h)) (by decide +kernel))
set_option maxRecDepth 20000 in
theorem gL_creep_X1_creep : GoodIn wsL_creep (wsV RL 32 RX1 yX1_creep wsX1_creep) := goodIn_app (goodIn_of _ (by decide +kernel)) ggL_creep_X1_creep
theorem dL_creep_0 : decode cL_creep 0 = .ok (.aload 4, 2) := by decide +kernel
theorem dL_creep_2 : decode cL_creep 2 = .ok (.iconst 0, 1) := by decide +kernel
theorem dL_creep_3 : decode cL_creep 3 = .ok (.aload_n 0, 1) := by decide +kernel
theorem dL_creep_4 : decode cL_creep 4 = .ok (.iload_n 1, 1) := by decide +kernel
theorem dL_creep_5 : decode cL_creep 5 = .ok (.iload_n 2, 1) := by decide +kernel
theorem dL_creep_6 : decode cL_creep 6 = .ok (.iload_n 3, 1) := by decide +kernel
theorem dL_creep_7 : decode cL_creep 7 = .ok (.invokevirtual 32, 3) := by decide +kernel
theorem dL_creep_10 : decode cL_creep 10 = .ok (.i2l, 1) := by decide +kernel
theorem dL_creep_11 : decode cL_creep 11 = .ok (.lastore, 1) := by decide +kernel
theorem dL_creep_12 : decode cL_creep 12 = .ok (.goto 11, 3) := by decide +kernel
theorem dL_creep_15 : decode cL_creep 15 = .ok (.astore 5, 2) := by decide +kernel
theorem dL_creep_17 : decode cL_creep 17 = .ok (.iconst 1, 1) := by decide +kernel
theorem dL_creep_18 : decode cL_creep 18 = .ok (.ireturn, 1) := by decide +kernel
theorem dL_creep_19 : decode cL_creep 19 = .ok (.astore 5, 2) := by decide +kernel
theorem dL_creep_21 : decode cL_creep 21 = .ok (.iconst 2, 1) := by decide +kernel
theorem dL_creep_22 : decode cL_creep 22 = .ok (.ireturn, 1) := by decide +kernel
theorem dL_creep_23 : decode cL_creep 23 = .ok (.iconst 0, 1) := by decide +kernel
theorem dL_creep_24 : decode cL_creep 24 = .ok (.ireturn, 1) := by decide +kernel
set_option maxRecDepth 20000 in
theorem ggL_told_X1_told : GoodIn wsL_told wsX1_told := goodIn_ca (goodIn_r _ [6, 7, 8, 5, 9, 10, 11, 12, 13, 14, 15, 16, 17, 18, 19, 20, 21, 22, 23, 24, 25, 26, 27, 28, 29, 30, 31, 32, 33, 34, 35, 36, 37, 38, 39, 40, 41, 42, 43, 44, 45, 46, 47, 48, 49, 50, 51, 52, 53, 54, 55, 56, 57, 58, 59, 60, 61, 62, 63, 64, 65, 66, 67, 68, 69, 70, 71, 72, 73, 74, 75, 76, 77, 78, 79, 80, 81, 82, 83, 84, 85, 86, 87, 88, 89, 90, 91, 92, 93, 94, 95, 96, 97, 98, 99, 100, 101, 102, 103, 104, 105, 106, 107, 108, 109, 110, 111, 112, 113, 114, 115, 116, 117, 118, 119, 120, 121, 122, 123, 124, 125, 126, 127, 128, 129, 130, 131, 132, 133, 134, 135, 136, 137, 138, 139, 140, 141, 142, 143, 144, 145, 146, 147, 148, 149, 150, 151, 152, 153, 154, 155] (by decide +kernel) (by decide +kernel)) (goodIn_sub (fun _ h => List.mem_cons_of_mem _ (List.mem_append_right _ h)) (by decide +kernel))
set_option maxRecDepth 20000 in
theorem gL_told_X1_told : GoodIn wsL_told (wsV RL 35 RX1 yX1_told wsX1_told) := goodIn_app (goodIn_of _ (by decide +kernel)) ggL_told_X1_told
theorem dL_told_0 : decode cL_told 0 = .ok (.aload 4, 2) := by decide +kernel
theorem dL_told_2 : decode cL_told 2 = .ok (.iconst 0, 1) := by decide +kernel
theorem dL_told_3 : decode cL_told 3 = .ok (.aload_n 0, 1) := by decide +kernel
theorem dL_told_4 : decode cL_told 4 = .ok (.iload_n 1, 1) := by decide +kernel
theorem dL_told_5 : decode cL_told 5 = .ok (.iload_n 2, 1) := by decide +kernel
theorem dL_told_6 : decode cL_told 6 = .ok (.iload_n 3, 1) := by decide +kernel
theorem dL_told_7 : decode cL_told 7 = .ok (.invokevirtual 35, 3) := by decide +kernel
theorem dL_told_10 : decode cL_told 10 = .ok (.i2l, 1) := by decide +kernel
theorem dL_told_11 : decode cL_told 11 = .ok (.lastore, 1) := by decide +kernel
theorem dL_told_12 : decode cL_told 12 = .ok (.goto 7, 3) := by decide +kernel
theorem dL_told_15 : decode cL_told 15 = .ok (.astore 5, 2) := by decide +kernel
theorem dL_told_17 : decode cL_told 17 = .ok (.iconst 1, 1) := by decide +kernel
theorem dL_told_18 : decode cL_told 18 = .ok (.ireturn, 1) := by decide +kernel
theorem dL_told_19 : decode cL_told 19 = .ok (.iconst 0, 1) := by decide +kernel
theorem dL_told_20 : decode cL_told 20 = .ok (.ireturn, 1) := by decide +kernel
set_option maxRecDepth 20000 in
theorem ggL_about_X1_about : GoodIn wsL_about wsX1_about := goodIn_ca (goodIn_r _ [6, 7, 8, 9, 5, 10, 11, 12, 13, 14, 15, 16, 17, 18, 19, 20, 21, 22, 23, 24, 25, 26, 27, 28, 29, 30, 31, 32, 33, 34, 35, 36, 37, 38, 39, 40, 41, 42, 43, 44, 45, 46, 47, 48, 49, 50] (by decide +kernel) (by decide +kernel)) (goodIn_sub (fun _ h => List.mem_cons_of_mem _ (List.mem_append_right _ h)) (by decide +kernel))
set_option maxRecDepth 20000 in
theorem gL_about_X1_about : GoodIn wsL_about (wsV RL 38 RX1 yX1_about wsX1_about) := goodIn_app (goodIn_of _ (by decide +kernel)) ggL_about_X1_about
theorem dL_about_0 : decode cL_about 0 = .ok (.aload_n 3, 1) := by decide +kernel
theorem dL_about_1 : decode cL_about 1 = .ok (.iconst 0, 1) := by decide +kernel
theorem dL_about_2 : decode cL_about 2 = .ok (.aload_n 0, 1) := by decide +kernel
theorem dL_about_3 : decode cL_about 3 = .ok (.iload_n 1, 1) := by decide +kernel
theorem dL_about_4 : decode cL_about 4 = .ok (.iload_n 2, 1) := by decide +kernel
theorem dL_about_5 : decode cL_about 5 = .ok (.invokevirtual 38, 3) := by decide +kernel
theorem dL_about_8 : decode cL_about 8 = .ok (.i2l, 1) := by decide +kernel
theorem dL_about_9 : decode cL_about 9 = .ok (.lastore, 1) := by decide +kernel
theorem dL_about_10 : decode cL_about 10 = .ok (.goto 7, 3) := by decide +kernel
theorem dL_about_13 : decode cL_about 13 = .ok (.astore 4, 2) := by decide +kernel
theorem dL_about_15 : decode cL_about 15 = .ok (.iconst 1, 1) := by decide +kernel
theorem dL_about_16 : decode cL_about 16 = .ok (.ireturn, 1) := by decide +kernel
theorem dL_about_17 : decode cL_about 17 = .ok (.iconst 0, 1) := by decide +kernel
theorem dL_about_18 : decode cL_about 18 = .ok (.ireturn, 1) := by decide +kernel
set_option maxRecDepth 20000 in
theorem ggL_seat_X1_seat : GoodIn wsL_seat wsX1_seat := goodIn_ca (goodIn_r _ [6, 7, 8, 9, 5, 10, 11, 12, 13, 14, 15, 16, 17, 18, 19, 20, 21, 22, 23, 24, 25, 26, 27, 28, 29, 30, 31, 32, 33, 34, 35, 36, 37, 38, 39, 40, 41, 42, 43, 44, 45, 46, 47, 48, 49, 50, 51, 52, 53, 54, 55, 56, 57, 58, 59, 60, 61, 62, 63, 64, 65, 66, 67, 68, 69, 70, 71, 72, 73, 74, 75, 76, 77, 78, 79, 80, 81, 82, 83, 84, 85, 86, 87, 88, 89, 90, 91, 92, 93, 94, 95, 96, 97, 98, 99, 100, 101, 102, 103, 104, 105, 106, 107, 108, 109, 110, 111, 112, 113, 114, 115, 116, 117, 118, 119, 120, 121, 122, 123, 124, 125, 126, 127, 128, 129, 130, 131, 132] (by decide +kernel) (by decide +kernel)) (goodIn_sub (fun _ h => List.mem_cons_of_mem _ (List.mem_append_right _ h)) (by decide +kernel))
set_option maxRecDepth 20000 in
theorem gL_seat_X1_seat : GoodIn wsL_seat (wsV RL 41 RX1 yX1_seat wsX1_seat) := goodIn_app (goodIn_of _ (by decide +kernel)) ggL_seat_X1_seat
theorem dL_seat_0 : decode cL_seat 0 = .ok (.aload_n 3, 1) := by decide +kernel
theorem dL_seat_1 : decode cL_seat 1 = .ok (.iconst 0, 1) := by decide +kernel
theorem dL_seat_2 : decode cL_seat 2 = .ok (.aload_n 0, 1) := by decide +kernel
theorem dL_seat_3 : decode cL_seat 3 = .ok (.iload_n 1, 1) := by decide +kernel
theorem dL_seat_4 : decode cL_seat 4 = .ok (.iload_n 2, 1) := by decide +kernel
theorem dL_seat_5 : decode cL_seat 5 = .ok (.invokevirtual 41, 3) := by decide +kernel
theorem dL_seat_8 : decode cL_seat 8 = .ok (.i2l, 1) := by decide +kernel
theorem dL_seat_9 : decode cL_seat 9 = .ok (.lastore, 1) := by decide +kernel
theorem dL_seat_10 : decode cL_seat 10 = .ok (.goto 7, 3) := by decide +kernel
theorem dL_seat_13 : decode cL_seat 13 = .ok (.astore 4, 2) := by decide +kernel
theorem dL_seat_15 : decode cL_seat 15 = .ok (.iconst 1, 1) := by decide +kernel
theorem dL_seat_16 : decode cL_seat 16 = .ok (.ireturn, 1) := by decide +kernel
theorem dL_seat_17 : decode cL_seat 17 = .ok (.iconst 0, 1) := by decide +kernel
theorem dL_seat_18 : decode cL_seat 18 = .ok (.ireturn, 1) := by decide +kernel
set_option maxRecDepth 20000 in
theorem ggL_sees_X1_sees : GoodIn wsL_sees wsX1_sees := goodIn_ca (goodIn_r _ [6, 7, 8, 9, 5, 10, 11, 12, 13, 14, 15, 16, 17, 18, 19, 20, 21, 22, 23, 24, 25, 26, 27, 28, 29, 30, 31, 32, 33, 34, 35, 36, 37, 38, 39, 40, 41, 42, 43, 44, 45, 46, 47, 48, 49, 50, 51, 52, 53, 54, 55, 56, 57, 58, 59, 60, 61, 62, 63, 64, 65, 66, 67, 68, 69, 70, 71, 72, 73, 74, 75, 76, 77, 78, 79, 80, 81, 82, 83, 84, 85, 86, 87, 88, 89, 90, 91, 92, 93, 94, 95, 96, 97, 98, 99, 100, 101, 102, 103, 104, 105, 106, 107, 108, 109, 110, 111, 112, 113, 114, 115, 116, 117] (by decide +kernel) (by decide +kernel)) (goodIn_sub (fun _ h => List.mem_cons_of_mem _ (List.mem_append_right _ h)) (by decide +kernel))
set_option maxRecDepth 20000 in
theorem gL_sees_X1_sees : GoodIn wsL_sees (wsV RL 44 RX1 yX1_sees wsX1_sees) := goodIn_app (goodIn_of _ (by decide +kernel)) ggL_sees_X1_sees
theorem dL_sees_0 : decode cL_sees 0 = .ok (.aload_n 3, 1) := by decide +kernel
theorem dL_sees_1 : decode cL_sees 1 = .ok (.iconst 0, 1) := by decide +kernel
theorem dL_sees_2 : decode cL_sees 2 = .ok (.aload_n 0, 1) := by decide +kernel
theorem dL_sees_3 : decode cL_sees 3 = .ok (.iload_n 1, 1) := by decide +kernel
theorem dL_sees_4 : decode cL_sees 4 = .ok (.iload_n 2, 1) := by decide +kernel
theorem dL_sees_5 : decode cL_sees 5 = .ok (.invokevirtual 44, 3) := by decide +kernel
theorem dL_sees_8 : decode cL_sees 8 = .ok (.ifCond .eq 7, 3) := by decide +kernel
theorem dL_sees_11 : decode cL_sees 11 = .ok (.lconst 1, 1) := by decide +kernel
theorem dL_sees_12 : decode cL_sees 12 = .ok (.goto 4, 3) := by decide +kernel
theorem dL_sees_15 : decode cL_sees 15 = .ok (.lconst 0, 1) := by decide +kernel
theorem dL_sees_16 : decode cL_sees 16 = .ok (.lastore, 1) := by decide +kernel
theorem dL_sees_17 : decode cL_sees 17 = .ok (.goto 7, 3) := by decide +kernel
theorem dL_sees_20 : decode cL_sees 20 = .ok (.astore 4, 2) := by decide +kernel
theorem dL_sees_22 : decode cL_sees 22 = .ok (.iconst 1, 1) := by decide +kernel
theorem dL_sees_23 : decode cL_sees 23 = .ok (.ireturn, 1) := by decide +kernel
theorem dL_sees_24 : decode cL_sees 24 = .ok (.iconst 0, 1) := by decide +kernel
theorem dL_sees_25 : decode cL_sees 25 = .ok (.ireturn, 1) := by decide +kernel
set_option maxRecDepth 20000 in
theorem ggL_count_X1_count : GoodIn wsL_count wsX1_count := goodIn_ca (goodIn_r _ [6, 7, 8, 9, 10, 11, 5, 12, 13, 14, 15, 16, 17, 18, 19, 20, 21, 22, 23, 24, 25, 26, 27, 28, 29, 30, 31, 32, 33, 34, 35, 36, 37, 38, 39, 40, 41, 42, 43, 44, 45, 46, 47, 48, 49, 50, 51, 52, 53, 54, 55, 56, 57, 58, 59, 60, 61, 62, 63, 64, 65, 66, 67, 68, 69, 70, 71, 72, 73, 74, 75, 76, 77, 78, 79, 80, 81, 82, 83, 84, 85, 86, 87, 88, 89, 90, 91, 92, 93, 94, 95, 96, 97, 98, 99, 100, 101, 102, 103, 104, 105, 106, 107, 108, 109, 110, 111, 112, 113, 114, 115, 116, 117, 118, 119, 120, 121, 122, 123, 124, 125, 126, 127, 128, 129, 130, 131, 132, 133, 134, 135, 136, 137, 138, 139, 140, 141, 142, 143, 144, 145, 146, 147, 148, 149, 150, 151, 152, 153, 154, 155, 156, 157, 158, 159, 160, 161, 162, 163, 164, 165] (by decide +kernel) (by decide +kernel)) (goodIn_sub (fun _ h => List.mem_cons_of_mem _ (List.mem_append_right _ h)) (by decide +kernel))
set_option maxRecDepth 20000 in
theorem gL_count_X1_count : GoodIn wsL_count (wsV RL 48 RX1 yX1_count wsX1_count) := goodIn_app (goodIn_of _ (by decide +kernel)) ggL_count_X1_count
theorem dL_count_0 : decode cL_count 0 = .ok (.aload_n 2, 1) := by decide +kernel
theorem dL_count_1 : decode cL_count 1 = .ok (.iconst 0, 1) := by decide +kernel
theorem dL_count_2 : decode cL_count 2 = .ok (.aload_n 0, 1) := by decide +kernel
theorem dL_count_3 : decode cL_count 3 = .ok (.iload_n 1, 1) := by decide +kernel
theorem dL_count_4 : decode cL_count 4 = .ok (.invokevirtual 48, 3) := by decide +kernel
theorem dL_count_7 : decode cL_count 7 = .ok (.i2l, 1) := by decide +kernel
theorem dL_count_8 : decode cL_count 8 = .ok (.lastore, 1) := by decide +kernel
theorem dL_count_9 : decode cL_count 9 = .ok (.goto 6, 3) := by decide +kernel
theorem dL_count_12 : decode cL_count 12 = .ok (.astore_n 3, 1) := by decide +kernel
theorem dL_count_13 : decode cL_count 13 = .ok (.iconst 1, 1) := by decide +kernel
theorem dL_count_14 : decode cL_count 14 = .ok (.ireturn, 1) := by decide +kernel
theorem dL_count_15 : decode cL_count 15 = .ok (.iconst 0, 1) := by decide +kernel
theorem dL_count_16 : decode cL_count 16 = .ok (.ireturn, 1) := by decide +kernel
set_option maxRecDepth 20000 in
theorem ggL_far_X1_far : GoodIn wsL_far wsX1_far := goodIn_ca (goodIn_r _ [6, 7, 8, 9, 5, 10, 11, 12, 13, 14, 15, 16, 17, 18, 19, 20, 21, 22, 23, 24, 25, 26, 27, 28, 29, 30, 31, 32, 33, 34, 35, 36, 37, 38, 39, 40, 41, 42, 43, 44, 45, 46, 47, 48, 49, 50, 51, 52, 53, 54, 55, 56, 57, 58, 59, 60, 61, 62, 63, 64, 65, 66] (by decide +kernel) (by decide +kernel)) (goodIn_sub (fun _ h => List.mem_cons_of_mem _ (List.mem_append_right _ h)) (by decide +kernel))
set_option maxRecDepth 20000 in
theorem gL_far_X1_far : GoodIn wsL_far (wsV RL 52 RX1 yX1_far wsX1_far) := goodIn_app (goodIn_of _ (by decide +kernel)) ggL_far_X1_far
theorem dL_far_0 : decode cL_far 0 = .ok (.aload_n 3, 1) := by decide +kernel
theorem dL_far_1 : decode cL_far 1 = .ok (.iconst 0, 1) := by decide +kernel
theorem dL_far_2 : decode cL_far 2 = .ok (.aload_n 0, 1) := by decide +kernel
theorem dL_far_3 : decode cL_far 3 = .ok (.iload_n 1, 1) := by decide +kernel
theorem dL_far_4 : decode cL_far 4 = .ok (.iload_n 2, 1) := by decide +kernel
theorem dL_far_5 : decode cL_far 5 = .ok (.invokevirtual 52, 3) := by decide +kernel
theorem dL_far_8 : decode cL_far 8 = .ok (.i2l, 1) := by decide +kernel
theorem dL_far_9 : decode cL_far 9 = .ok (.lastore, 1) := by decide +kernel
theorem dL_far_10 : decode cL_far 10 = .ok (.goto 7, 3) := by decide +kernel
theorem dL_far_13 : decode cL_far 13 = .ok (.astore 4, 2) := by decide +kernel
theorem dL_far_15 : decode cL_far 15 = .ok (.iconst 1, 1) := by decide +kernel
theorem dL_far_16 : decode cL_far 16 = .ok (.ireturn, 1) := by decide +kernel
theorem dL_far_17 : decode cL_far 17 = .ok (.iconst 0, 1) := by decide +kernel
theorem dL_far_18 : decode cL_far 18 = .ok (.ireturn, 1) := by decide +kernel
set_option maxRecDepth 20000 in
theorem ggL_stops_X1_stops : GoodIn wsL_stops wsX1_stops := goodIn_ca (goodIn_r _ [6, 7, 8, 5, 9, 10, 11, 12, 13, 14, 15, 16, 17, 18, 19, 20, 21, 22, 23, 24, 25, 26, 27, 28, 29, 30, 31, 32, 33, 34, 35, 36, 37, 38, 39, 40, 41, 42, 43, 44, 45, 46, 47, 48, 49, 50, 51, 52, 53, 54, 55, 56, 57, 58, 59, 60, 61, 62, 63, 64, 65, 66, 67, 68, 69, 70, 71, 72, 73, 74, 75, 76, 77, 78, 79, 80, 81, 82, 83, 84, 85, 86, 87, 88, 89, 90, 91, 92, 93, 94, 95, 96, 97] (by decide +kernel) (by decide +kernel)) (goodIn_sub (fun _ h => List.mem_cons_of_mem _ (List.mem_append_right _ h)) (by decide +kernel))
set_option maxRecDepth 20000 in
theorem gL_stops_X1_stops : GoodIn wsL_stops (wsV RL 55 RX1 yX1_stops wsX1_stops) := goodIn_app (goodIn_of _ (by decide +kernel)) ggL_stops_X1_stops
theorem dL_stops_0 : decode cL_stops 0 = .ok (.aload_n 3, 1) := by decide +kernel
theorem dL_stops_1 : decode cL_stops 1 = .ok (.iconst 0, 1) := by decide +kernel
theorem dL_stops_2 : decode cL_stops 2 = .ok (.aload_n 0, 1) := by decide +kernel
theorem dL_stops_3 : decode cL_stops 3 = .ok (.iload_n 1, 1) := by decide +kernel
theorem dL_stops_4 : decode cL_stops 4 = .ok (.iload_n 2, 1) := by decide +kernel
theorem dL_stops_5 : decode cL_stops 5 = .ok (.invokevirtual 55, 3) := by decide +kernel
theorem dL_stops_8 : decode cL_stops 8 = .ok (.i2l, 1) := by decide +kernel
theorem dL_stops_9 : decode cL_stops 9 = .ok (.lastore, 1) := by decide +kernel
theorem dL_stops_10 : decode cL_stops 10 = .ok (.goto 7, 3) := by decide +kernel
theorem dL_stops_13 : decode cL_stops 13 = .ok (.astore 4, 2) := by decide +kernel
theorem dL_stops_15 : decode cL_stops 15 = .ok (.iconst 1, 1) := by decide +kernel
theorem dL_stops_16 : decode cL_stops 16 = .ok (.ireturn, 1) := by decide +kernel
theorem dL_stops_17 : decode cL_stops 17 = .ok (.iconst 0, 1) := by decide +kernel
theorem dL_stops_18 : decode cL_stops 18 = .ok (.ireturn, 1) := by decide +kernel
set_option maxRecDepth 20000 in
theorem ggL_creeps_X1_creeps : GoodIn wsL_creeps wsX1_creeps := goodIn_ca (goodIn_r _ [6, 7, 8, 9, 5, 10, 11, 12, 13, 14, 15, 16, 17, 18, 19, 20, 21, 22, 23, 24, 25, 26, 27, 28, 29, 30, 31, 32, 33, 34, 35, 36, 37, 38, 39, 40, 41, 42, 43, 44, 45, 46, 47, 48, 49, 50, 51, 52, 53, 54, 55, 56, 57, 58, 59, 60, 61, 62, 63, 64, 65, 66, 67, 68, 69, 70, 71, 72, 73, 74, 75, 76, 77, 78, 79, 80] (by decide +kernel) (by decide +kernel)) (goodIn_sub (fun _ h => List.mem_cons_of_mem _ (List.mem_append_right _ h)) (by decide +kernel))
set_option maxRecDepth 20000 in
theorem gL_creeps_X1_creeps : GoodIn wsL_creeps (wsV RL 58 RX1 yX1_creeps wsX1_creeps) := goodIn_app (goodIn_of _ (by decide +kernel)) ggL_creeps_X1_creeps
theorem dL_creeps_0 : decode cL_creeps 0 = .ok (.aload 4, 2) := by decide +kernel
theorem dL_creeps_2 : decode cL_creeps 2 = .ok (.iconst 0, 1) := by decide +kernel
theorem dL_creeps_3 : decode cL_creeps 3 = .ok (.aload_n 0, 1) := by decide +kernel
theorem dL_creeps_4 : decode cL_creeps 4 = .ok (.iload_n 1, 1) := by decide +kernel
theorem dL_creeps_5 : decode cL_creeps 5 = .ok (.iload_n 2, 1) := by decide +kernel
theorem dL_creeps_6 : decode cL_creeps 6 = .ok (.iload_n 3, 1) := by decide +kernel
theorem dL_creeps_7 : decode cL_creeps 7 = .ok (.invokevirtual 58, 3) := by decide +kernel
theorem dL_creeps_10 : decode cL_creeps 10 = .ok (.i2l, 1) := by decide +kernel
theorem dL_creeps_11 : decode cL_creeps 11 = .ok (.lastore, 1) := by decide +kernel
theorem dL_creeps_12 : decode cL_creeps 12 = .ok (.goto 7, 3) := by decide +kernel
theorem dL_creeps_15 : decode cL_creeps 15 = .ok (.astore 5, 2) := by decide +kernel
theorem dL_creeps_17 : decode cL_creeps 17 = .ok (.iconst 1, 1) := by decide +kernel
theorem dL_creeps_18 : decode cL_creeps 18 = .ok (.ireturn, 1) := by decide +kernel
theorem dL_creeps_19 : decode cL_creeps 19 = .ok (.iconst 0, 1) := by decide +kernel
theorem dL_creeps_20 : decode cL_creeps 20 = .ok (.ireturn, 1) := by decide +kernel
set_option maxRecDepth 20000 in
theorem ggL_would_X1_would : GoodIn wsL_would wsX1_would := goodIn_ca (goodIn_ca (goodIn_r _ [7, 8, 9, 6, 10, 11, 12, 13, 14, 15, 16, 17, 18, 19, 20, 21, 22, 23, 24, 25, 26, 27, 28, 29, 30, 31, 32, 33, 34, 35, 36, 37, 38, 39, 40, 41, 42, 43, 44, 45, 46, 47, 48, 49, 50, 51, 52, 53, 54, 55, 56, 57, 58, 59, 60, 61, 62, 63, 64, 65, 66, 67, 68, 69, 70, 71, 72, 73, 74, 75, 76, 77, 78, 79, 80, 81, 82, 83, 84, 85, 86, 87, 88, 89, 90, 91, 92, 93, 94, 95, 96, 97, 98, 99, 100, 101, 102, 103, 104, 105, 106, 107, 108, 109, 110, 111, 112, 113, 114, 115, 116, 117, 118, 119, 120, 121, 122, 123, 124, 125, 126, 127, 128, 129, 130, 131, 132, 133, 134, 135, 136, 137, 138, 139, 140, 141, 142, 143, 144, 145, 146] (by decide +kernel) (by decide +kernel)) (goodIn_sub (fun _ h => List.mem_cons_of_mem _ (List.mem_append_left _ (List.mem_append_right _ h))) (by decide +kernel))) (goodIn_sub (fun _ h => List.mem_cons_of_mem _ (List.mem_append_right _ h)) (by decide +kernel))
set_option maxRecDepth 20000 in
theorem gL_would_X1_would : GoodIn wsL_would (wsV RL 61 RX1 yX1_would wsX1_would) := goodIn_app (goodIn_of _ (by decide +kernel)) ggL_would_X1_would
theorem dL_would_0 : decode cL_would 0 = .ok (.aload 4, 2) := by decide +kernel
theorem dL_would_2 : decode cL_would 2 = .ok (.iconst 0, 1) := by decide +kernel
theorem dL_would_3 : decode cL_would 3 = .ok (.aload_n 0, 1) := by decide +kernel
theorem dL_would_4 : decode cL_would 4 = .ok (.iload_n 1, 1) := by decide +kernel
theorem dL_would_5 : decode cL_would 5 = .ok (.iload_n 2, 1) := by decide +kernel
theorem dL_would_6 : decode cL_would 6 = .ok (.iload_n 3, 1) := by decide +kernel
theorem dL_would_7 : decode cL_would 7 = .ok (.invokevirtual 61, 3) := by decide +kernel
theorem dL_would_10 : decode cL_would 10 = .ok (.i2l, 1) := by decide +kernel
theorem dL_would_11 : decode cL_would 11 = .ok (.lastore, 1) := by decide +kernel
theorem dL_would_12 : decode cL_would 12 = .ok (.goto 11, 3) := by decide +kernel
theorem dL_would_15 : decode cL_would 15 = .ok (.astore 5, 2) := by decide +kernel
theorem dL_would_17 : decode cL_would 17 = .ok (.iconst 1, 1) := by decide +kernel
theorem dL_would_18 : decode cL_would 18 = .ok (.ireturn, 1) := by decide +kernel
theorem dL_would_19 : decode cL_would 19 = .ok (.astore 5, 2) := by decide +kernel
theorem dL_would_21 : decode cL_would 21 = .ok (.iconst 2, 1) := by decide +kernel
theorem dL_would_22 : decode cL_would 22 = .ok (.ireturn, 1) := by decide +kernel
theorem dL_would_23 : decode cL_would 23 = .ok (.iconst 0, 1) := by decide +kernel
theorem dL_would_24 : decode cL_would 24 = .ok (.ireturn, 1) := by decide +kernel
set_option maxRecDepth 20000 in
theorem ggL_advise_X1_advise : GoodIn wsL_advise wsX1_advise := goodIn_ca (goodIn_r _ [6, 7, 8, 9, 5, 10, 11, 12, 13, 14, 15, 16, 17, 18, 19, 20, 21, 22, 23, 24, 25, 26, 27, 28, 29, 30, 31, 32, 33, 34, 35, 36, 37, 38, 39, 40, 41, 42, 43, 44, 45, 46, 47, 48, 49, 50, 51, 52, 53, 54, 55, 56, 57, 58, 59, 60, 61, 62, 63, 64, 65, 66, 67, 68, 69, 70, 71, 72, 73, 74, 75, 76, 77, 78, 79, 80, 81, 82, 83, 84, 85, 86, 87, 88, 89, 90, 91, 92, 93, 94, 95, 96, 97, 98, 99, 100, 101, 102, 103, 104, 105, 106, 107, 108, 109, 110, 111, 112, 113, 114, 115, 116, 117, 118, 119, 120, 121, 122, 123, 124, 125, 126, 127, 128, 129, 130, 131, 132, 133, 134, 135, 136, 137, 138, 139, 140, 141, 142, 143] (by decide +kernel) (by decide +kernel)) (goodIn_sub (fun _ h => List.mem_cons_of_mem _ (List.mem_append_right _ h)) (by decide +kernel))
set_option maxRecDepth 20000 in
theorem gL_advise_X1_advise : GoodIn wsL_advise (wsV RL 64 RX1 yX1_advise wsX1_advise) := goodIn_app (goodIn_of _ (by decide +kernel)) ggL_advise_X1_advise
theorem dL_advise_0 : decode cL_advise 0 = .ok (.aload_n 2, 1) := by decide +kernel
theorem dL_advise_1 : decode cL_advise 1 = .ok (.iconst 0, 1) := by decide +kernel
theorem dL_advise_2 : decode cL_advise 2 = .ok (.aload_n 0, 1) := by decide +kernel
theorem dL_advise_3 : decode cL_advise 3 = .ok (.iload_n 1, 1) := by decide +kernel
theorem dL_advise_4 : decode cL_advise 4 = .ok (.invokevirtual 64, 3) := by decide +kernel
theorem dL_advise_7 : decode cL_advise 7 = .ok (.i2l, 1) := by decide +kernel
theorem dL_advise_8 : decode cL_advise 8 = .ok (.lastore, 1) := by decide +kernel
theorem dL_advise_9 : decode cL_advise 9 = .ok (.goto 6, 3) := by decide +kernel
theorem dL_advise_12 : decode cL_advise 12 = .ok (.astore_n 3, 1) := by decide +kernel
theorem dL_advise_13 : decode cL_advise 13 = .ok (.iconst 1, 1) := by decide +kernel
theorem dL_advise_14 : decode cL_advise 14 = .ok (.ireturn, 1) := by decide +kernel
theorem dL_advise_15 : decode cL_advise 15 = .ok (.iconst 0, 1) := by decide +kernel
theorem dL_advise_16 : decode cL_advise 16 = .ok (.ireturn, 1) := by decide +kernel
set_option maxRecDepth 20000 in
theorem ggL_law_X1_init : GoodIn wsL_law wsX1_init := goodIn_r _ [9, 10, 11, 12, 13, 14, 15, 16, 17, 18, 19, 20, 21, 22, 23, 24, 25, 26, 27, 636, 637, 638, 639, 640, 641, 642, 643, 644, 645, 646, 661, 662, 663, 664, 665, 666, 667, 668, 669] (by decide +kernel) (by decide +kernel)
set_option maxRecDepth 20000 in
theorem gL_law_X1_init : GoodIn wsL_law (wsX1_init) := ggL_law_X1_init
set_option maxRecDepth 20000 in
theorem ggL_law_X2_init : GoodIn wsL_law wsX2_init := goodIn_r _ [30, 31, 11, 12, 13, 32, 33, 34, 35, 36, 37, 38, 39, 647, 648, 649, 650, 651, 652, 653, 654, 655, 656, 657, 658, 659, 660] (by decide +kernel) (by decide +kernel)
set_option maxRecDepth 20000 in
theorem gL_law_X2_init : GoodIn wsL_law (wsX2_init) := ggL_law_X2_init
set_option maxRecDepth 20000 in
theorem ggL_law_L_set : GoodIn wsL_law wsL_set := goodIn_ca (goodIn_ca (goodIn_r _ [43, 44, 45, 46, 47, 48, 2, 49, 50, 51, 52, 53, 54, 55, 56, 57, 58, 59, 60, 61, 62, 63, 64, 65, 66, 14, 67, 68, 69, 70, 71, 72, 73, 74, 75, 76, 77, 78, 79, 18, 80, 81, 82, 83, 84, 85, 86, 87, 15, 88, 89, 90, 91, 16, 92, 93, 94, 95, 96, 97, 98, 99, 100, 101, 24, 102, 103, 104, 23, 105, 106, 107, 108, 109, 110, 111, 112, 113, 114, 115, 116, 117, 118, 119, 120, 121, 122, 123, 124, 125, 126, 127, 128, 129, 130, 131, 132, 133, 134, 135, 136, 137, 138, 139, 140, 141, 142, 143, 144, 145, 146, 147, 148, 149, 150, 636, 637, 638, 639, 640, 641, 642, 643, 644, 645, 646, 661, 662, 663, 664, 665, 666, 667, 668, 669] (by decide +kernel) (by decide +kernel)) (goodIn_sub (fun _ h => List.mem_append_left _ (List.mem_append_left _ (List.mem_append_right _ h))) (by decide +kernel))) (goodIn_sub (fun _ h => List.mem_append_left _ (List.mem_append_right _ h)) (by decide +kernel))
set_option maxRecDepth 20000 in
theorem gL_law_L_set : GoodIn wsL_law (va_wsS RL 71 yL_set wsL_set) := goodIn_app (goodIn_of _ (by decide +kernel)) ggL_law_L_set
set_option maxRecDepth 20000 in
theorem ggL_law_X2_set : GoodIn wsL_law wsX2_set := goodIn_r _ [154, 155, 32, 156, 157, 5, 158, 159, 160, 161, 162, 163, 164, 165, 647, 648, 649, 650, 651, 652, 653, 654, 655, 656, 657, 658, 659, 660] (by decide +kernel) (by decide +kernel)
set_option maxRecDepth 20000 in
theorem gL_law_X2_set : GoodIn wsL_law (wsV RL 76 RX2 yX2_set wsX2_set) := goodIn_app (goodIn_of _ (by decide +kernel)) ggL_law_X2_set
set_option maxRecDepth 20000 in
theorem ggL_law_X2_thrown : GoodIn wsL_law wsX2_thrown := goodIn_r _ [169, 155, 647, 648, 649, 650, 651, 652, 653, 654, 655, 656, 657, 658, 659, 660] (by decide +kernel) (by decide +kernel)
set_option maxRecDepth 20000 in
theorem gL_law_X2_thrown : GoodIn wsL_law (wsV RL 77 RX2 yX2_thrown wsX2_thrown) := goodIn_app (goodIn_of _ (by decide +kernel)) ggL_law_X2_thrown
set_option maxRecDepth 20000 in
theorem ggL_law_L_lamp : GoodIn wsL_law wsL_lamp := goodIn_ca (goodIn_ca (goodIn_ca (goodIn_r _ [172, 44, 45, 173, 174, 175, 176, 2, 177, 178, 179, 75, 15, 16, 50, 51, 52, 53, 54, 180, 181, 182, 58, 59, 60, 61, 62, 183, 184, 185, 186, 84, 85, 86, 87, 76, 77, 78, 79, 18, 80, 81, 82, 83, 88, 89, 90, 91, 92, 93, 94, 95, 96, 97, 98, 99, 100, 101, 24, 102, 103, 104, 23, 105, 106, 107, 108, 109, 110, 111, 112, 113, 114, 115, 116, 117, 118, 119, 120, 121, 122, 123, 124, 125, 126, 127, 128, 129, 130, 131, 132, 133, 134, 135, 136, 137, 138, 139, 140, 141, 142, 63, 64, 65, 66, 14, 143, 144, 145, 146, 147, 148, 149, 150, 636, 637, 638, 639, 640, 641, 642, 643, 644, 645, 646, 661, 662, 663, 664, 665, 666, 667, 668, 669] (by decide +kernel) (by decide +kernel)) (goodIn_sub (fun _ h => List.mem_append_right _ h) (by decide +kernel))) (goodIn_sub (fun _ h => List.mem_append_left _ (List.mem_append_left _ (List.mem_append_right _ h))) (by decide +kernel))) (goodIn_sub (fun _ h => List.mem_append_left _ (List.mem_append_right _ h)) (by decide +kernel))
set_option maxRecDepth 20000 in
theorem gL_law_L_lamp : GoodIn wsL_law (va_wsS RL 81 yL_lamp wsL_lamp) := goodIn_app (goodIn_of _ (by decide +kernel)) ggL_law_L_lamp
set_option maxRecDepth 20000 in
theorem ggL_law_X2_lamp : GoodIn wsL_law wsX2_lamp := goodIn_r _ [190, 155, 191, 33, 34, 156, 157, 5, 158, 159, 160, 161, 162, 163, 164, 165, 192, 193, 194, 195, 647, 648, 649, 650, 651, 652, 653, 654, 655, 656, 657, 658, 659, 660] (by decide +kernel) (by decide +kernel)
set_option maxRecDepth 20000 in
theorem gL_law_X2_lamp : GoodIn wsL_law (wsV RL 83 RX2 yX2_lamp wsX2_lamp) := goodIn_app (goodIn_of _ (by decide +kernel)) ggL_law_X2_lamp
set_option maxRecDepth 20000 in
theorem ggL_law_L_carry : GoodIn wsL_law wsL_carry := goodIn_ca (goodIn_ca (goodIn_r _ [198, 44, 173, 199, 200, 201, 2, 202, 178, 179, 203, 204, 205, 206, 53, 54, 75, 50, 51, 52, 60, 61, 62, 183, 184, 185, 186, 84, 85, 86, 87, 15, 207, 208, 209, 210, 76, 77, 78, 79, 18, 80, 81, 82, 83, 88, 89, 90, 91, 16, 92, 93, 94, 95, 96, 97, 98, 99, 100, 101, 24, 102, 103, 104, 23, 105, 106, 107, 108, 109, 110, 111, 112, 113, 114, 115, 116, 117, 118, 119, 120, 121, 122, 123, 124, 125, 126, 127, 128, 129, 130, 131, 132, 133, 134, 135, 136, 137, 138, 139, 140, 141, 142, 63, 64, 65, 66, 14, 143, 144, 145, 146, 147, 148, 149, 150, 211, 212, 213, 214, 215, 216, 217, 218, 219, 220, 221, 222, 636, 637, 638, 639, 640, 641, 642, 643, 644, 645, 646, 661, 662, 663, 664, 665, 666, 667, 668, 669] (by decide +kernel) (by decide +kernel)) (goodIn_sub (fun _ h => List.mem_append_right _ h) (by decide +kernel))) (goodIn_sub (fun _ h => List.mem_append_left _ (List.mem_append_left _ (List.mem_append_right _ h))) (by decide +kernel))
set_option maxRecDepth 20000 in
theorem gL_law_L_carry : GoodIn wsL_law (va_wsS RL 84 yL_carry wsL_carry) := goodIn_app (goodIn_of _ (by decide +kernel)) ggL_law_L_carry
set_option maxRecDepth 20000 in
theorem ggL_law_X2_carry : GoodIn wsL_law wsX2_carry := goodIn_r _ [226, 155, 33, 227, 228, 229, 5, 230, 191, 159, 160, 161, 156, 157, 158, 162, 163, 164, 165, 192, 193, 194, 195, 231, 232, 233, 234, 36, 37, 34, 235, 236, 112, 237, 238, 239, 240, 241, 242, 243, 244, 245, 111, 113, 246, 247, 248, 249, 250, 251, 252, 253, 254, 255, 256, 257, 258, 259, 260, 261, 262, 32, 647, 648, 649, 650, 651, 652, 653, 654, 655, 656, 657, 658, 659, 660] (by decide +kernel) (by decide +kernel)
set_option maxRecDepth 20000 in
theorem gL_law_X2_carry : GoodIn wsL_law (wsV RL 86 RX2 yX2_carry wsX2_carry) := goodIn_app (goodIn_of _ (by decide +kernel)) ggL_law_X2_carry
set_option maxRecDepth 20000 in
theorem ggL_law_L_turn : GoodIn wsL_law wsL_turn := goodIn_ca (goodIn_ca (goodIn_r _ [265, 44, 45, 266, 267, 268, 2, 269, 203, 204, 205, 206, 53, 54, 75, 180, 181, 182, 58, 59, 88, 89, 90, 91, 16, 270, 271, 272, 273, 76, 77, 78, 79, 18, 80, 81, 82, 83, 84, 85, 86, 87, 15, 92, 93, 94, 95, 96, 97, 98, 99, 100, 101, 24, 102, 103, 104, 23, 105, 106, 107, 108, 109, 110, 111, 112, 113, 114, 115, 116, 117, 118, 119, 120, 121, 122, 123, 124, 125, 126, 127, 128, 129, 130, 131, 132, 133, 134, 135, 136, 137, 138, 61, 62, 139, 140, 141, 142, 63, 64, 65, 66, 14, 143, 144, 145, 146, 147, 148, 149, 150, 636, 637, 638, 639, 640, 641, 642, 643, 644, 645, 646, 661, 662, 663, 664, 665, 666, 667, 668, 669] (by decide +kernel) (by decide +kernel)) (goodIn_sub (fun _ h => List.mem_append_left _ (List.mem_append_left _ (List.mem_append_right _ h))) (by decide +kernel))) (goodIn_sub (fun _ h => List.mem_append_left _ (List.mem_append_right _ h)) (by decide +kernel))
set_option maxRecDepth 20000 in
theorem gL_law_L_turn : GoodIn wsL_law (va_wsS RL 87 yL_turn wsL_turn) := goodIn_app (goodIn_of _ (by decide +kernel)) ggL_law_L_turn
set_option maxRecDepth 20000 in
theorem ggL_law_X2_turn : GoodIn wsL_law wsX2_turn := goodIn_r _ [277, 155, 34, 227, 228, 229, 5, 230, 191, 159, 160, 161, 162, 163, 164, 165, 647, 648, 649, 650, 651, 652, 653, 654, 655, 656, 657, 658, 659, 660] (by decide +kernel) (by decide +kernel)
set_option maxRecDepth 20000 in
theorem gL_law_X2_turn : GoodIn wsL_law (wsV RL 90 RX2 yX2_turn wsX2_turn) := goodIn_app (goodIn_of _ (by decide +kernel)) ggL_law_X2_turn
set_option maxRecDepth 20000 in
theorem ggL_law_L_watcher : GoodIn wsL_law wsL_watcher := goodIn_ca (goodIn_ca (goodIn_r _ [280, 44, 173, 281, 282, 283, 2, 284, 178, 179, 285, 17, 50, 51, 52, 53, 54, 60, 61, 62, 63, 64, 65, 66, 14, 636, 637, 638, 639, 640, 641, 642, 643, 644, 645, 646] (by decide +kernel) (by decide +kernel)) (goodIn_sub (fun _ h => List.mem_append_right _ h) (by decide +kernel))) (goodIn_sub (fun _ h => List.mem_append_left _ (List.mem_append_left _ (List.mem_append_right _ h))) (by decide +kernel))
set_option maxRecDepth 20000 in
theorem gL_law_L_watcher : GoodIn wsL_law (va_wsS RL 91 yL_watcher wsL_watcher) := goodIn_app (goodIn_of _ (by decide +kernel)) ggL_law_L_watcher
set_option maxRecDepth 20000 in
theorem ggL_law_X2_watcher : GoodIn wsL_law wsX2_watcher := goodIn_r _ [289, 155, 290, 32, 35, 156, 157, 5, 158, 159, 160, 161, 162, 163, 164, 165, 647, 648, 649, 650, 651, 652, 653, 654, 655, 656, 657, 658, 659, 660] (by decide +kernel) (by decide +kernel)
set_option maxRecDepth 20000 in
theorem gL_law_X2_watcher : GoodIn wsL_law (wsV RL 93 RX2 yX2_watcher wsX2_watcher) := goodIn_app (goodIn_of _ (by decide +kernel)) ggL_law_X2_watcher
set_option maxRecDepth 20000 in
theorem ggL_law_L_creep : GoodIn wsL_law wsL_creep := goodIn_ca (goodIn_ca (goodIn_r _ [293, 44, 173, 294, 295, 296, 2, 297, 178, 179, 298, 299, 300, 301, 302, 53, 54, 285, 50, 51, 52, 60, 61, 62, 303, 304, 305, 306, 307, 308, 309, 310, 17, 311, 312, 313, 314, 19, 20, 315, 316, 317, 318, 319, 320, 321, 322, 323, 324, 325, 95, 96, 97, 92, 93, 94, 326, 327, 328, 329, 63, 64, 65, 66, 14, 215, 216, 217, 218, 219, 220, 221, 222, 18, 330, 331, 332, 333, 636, 637, 638, 639, 640, 641, 642, 643, 644, 645, 646] (by decide +kernel) (by decide +kernel)) (goodIn_sub (fun _ h => List.mem_append_right _ h) (by decide +kernel))) (goodIn_sub (fun _ h => List.mem_append_left _ (List.mem_append_left _ (List.mem_append_right _ h))) (by decide +kernel))
set_option maxRecDepth 20000 in
theorem gL_law_L_creep : GoodIn wsL_law (va_wsS RL 94 yL_creep wsL_creep) := goodIn_app (goodIn_of _ (by decide +kernel)) ggL_law_L_creep
set_option maxRecDepth 20000 in
theorem ggL_law_X2_creep : GoodIn wsL_law wsX2_creep := goodIn_r _ [337, 155, 35, 338, 339, 340, 341, 5, 342, 290, 159, 160, 161, 156, 157, 158, 162, 163, 164, 165, 231, 232, 233, 234, 36, 37, 191, 34, 33, 235, 236, 112, 237, 238, 239, 240, 241, 242, 243, 244, 245, 111, 113, 246, 247, 248, 249, 250, 251, 252, 253, 254, 255, 256, 257, 258, 259, 260, 261, 262, 32, 343, 344, 345, 346, 38, 39, 347, 348, 349, 647, 648, 649, 650, 651, 652, 653, 654, 655, 656, 657, 658, 659, 660] (by decide +kernel) (by decide +kernel)
set_option maxRecDepth 20000 in
theorem gL_law_X2_creep : GoodIn wsL_law (wsV RL 96 RX2 yX2_creep wsX2_creep) := goodIn_app (goodIn_of _ (by decide +kernel)) ggL_law_X2_creep
set_option maxRecDepth 20000 in
theorem ggL_law_L_told : GoodIn wsL_law wsL_told := goodIn_ca (goodIn_r _ [352, 44, 353, 354, 355, 2, 356, 50, 51, 52, 53, 54, 357, 358, 359, 60, 61, 62, 63, 64, 65, 66, 14, 360, 361, 362, 363, 75, 364, 111, 112, 113, 365, 236, 237, 219, 220, 221, 222, 18, 84, 85, 86, 87, 15, 92, 93, 94, 95, 96, 97, 88, 89, 90, 91, 16, 366, 367, 121, 368, 369, 370, 371, 372, 373, 374, 375, 285, 307, 308, 309, 310, 17, 376, 377, 378, 379, 380, 381, 382, 383, 215, 216, 217, 218, 98, 99, 100, 101, 24, 102, 103, 104, 23, 105, 106, 107, 108, 109, 110, 114, 115, 116, 117, 118, 119, 120, 122, 123, 124, 125, 126, 127, 128, 129, 130, 131, 132, 133, 134, 135, 136, 137, 138, 139, 140, 141, 142, 143, 144, 145, 146, 147, 148, 149, 150, 636, 637, 638, 639, 640, 641, 642, 643, 644, 645, 646, 661, 662, 663, 664, 665, 666, 667, 668, 669] (by decide +kernel) (by decide +kernel)) (goodIn_sub (fun _ h => List.mem_append_left _ (List.mem_append_left _ (List.mem_append_right _ h))) (by decide +kernel))
set_option maxRecDepth 20000 in
theorem gL_law_L_told : GoodIn wsL_law (va_wsS RL 97 yL_told wsL_told) := goodIn_app (goodIn_of _ (by decide +kernel)) ggL_law_L_told
set_option maxRecDepth 20000 in
theorem ggL_law_X2_told : GoodIn wsL_law wsX2_told := goodIn_r _ [387, 155, 156, 157, 5, 158, 159, 160, 161, 162, 163, 164, 165, 231, 232, 233, 234, 36, 37, 191, 34, 33, 235, 236, 112, 237, 238, 239, 240, 241, 242, 243, 244, 245, 111, 113, 246, 247, 248, 249, 250, 251, 252, 253, 254, 255, 256, 257, 258, 259, 260, 261, 262, 32, 388, 389, 390, 391, 392, 393, 394, 395, 290, 35, 396, 397, 398, 399, 400, 401, 402, 403, 647, 648, 649, 650, 651, 652, 653, 654, 655, 656, 657, 658, 659, 660] (by decide +kernel) (by decide +kernel)
set_option maxRecDepth 20000 in
theorem gL_law_X2_told : GoodIn wsL_law (wsV RL 99 RX2 yX2_told wsX2_told) := goodIn_app (goodIn_of _ (by decide +kernel)) ggL_law_X2_told
set_option maxRecDepth 20000 in
theorem ggL_law_L_about : GoodIn wsL_law wsL_about := goodIn_ca (goodIn_r _ [406, 44, 407, 408, 409, 2, 410, 203, 204, 205, 206, 53, 54, 75, 357, 358, 359, 84, 85, 86, 87, 15, 88, 89, 90, 91, 16, 411, 412, 413, 414, 219, 220, 221, 222, 18, 415, 416, 417, 418, 636, 637, 638, 639, 640, 641, 642, 643, 644, 645, 646] (by decide +kernel) (by decide +kernel)) (goodIn_sub (fun _ h => List.mem_append_left _ (List.mem_append_left _ (List.mem_append_right _ h))) (by decide +kernel))
set_option maxRecDepth 20000 in
theorem gL_law_L_about : GoodIn wsL_law (va_wsS RL 100 yL_about wsL_about) := goodIn_app (goodIn_of _ (by decide +kernel)) ggL_law_L_about
set_option maxRecDepth 20000 in
theorem ggL_law_X2_about : GoodIn wsL_law wsX2_about := goodIn_r _ [422, 155, 227, 228, 229, 5, 230, 191, 159, 160, 161, 162, 163, 164, 165, 231, 232, 233, 234, 36, 37, 34, 33, 235, 236, 112, 237, 238, 239, 240, 241, 242, 243, 244, 245, 111, 113, 246, 247, 248, 249, 250, 251, 252, 253, 254, 255, 256, 257, 258, 259, 260, 261, 262, 32, 423, 424, 425, 426, 427, 428, 429, 430, 647, 648, 649, 650, 651, 652, 653, 654, 655, 656, 657, 658, 659, 660] (by decide +kernel) (by decide +kernel)
set_option maxRecDepth 20000 in
theorem gL_law_X2_about : GoodIn wsL_law (wsV RL 102 RX2 yX2_about wsX2_about) := goodIn_app (goodIn_of _ (by decide +kernel)) ggL_law_X2_about
set_option maxRecDepth 20000 in
theorem ggL_law_L_seat : GoodIn wsL_law wsL_seat := goodIn_ca (goodIn_r _ [433, 44, 434, 435, 436, 2, 437, 299, 300, 301, 302, 53, 54, 285, 357, 358, 359, 307, 308, 309, 310, 17, 438, 439, 440, 441, 380, 381, 382, 383, 215, 216, 217, 218, 219, 220, 221, 222, 18, 98, 99, 100, 101, 24, 102, 103, 104, 23, 105, 106, 107, 108, 109, 110, 111, 112, 113, 114, 115, 116, 117, 118, 93, 94, 96, 97, 119, 120, 121, 122, 123, 124, 125, 126, 127, 128, 129, 130, 131, 132, 133, 134, 135, 136, 137, 138, 61, 62, 139, 140, 141, 142, 63, 64, 65, 66, 14, 143, 144, 145, 146, 147, 148, 149, 150, 442, 443, 444, 445, 446, 447, 448, 449, 636, 637, 638, 639, 640, 641, 642, 643, 644, 645, 646, 661, 662, 663, 664, 665, 666, 667, 668, 669] (by decide +kernel) (by decide +kernel)) (goodIn_sub (fun _ h => List.mem_append_left _ (List.mem_append_left _ (List.mem_append_right _ h))) (by decide +kernel))
set_option maxRecDepth 20000 in
theorem gL_law_L_seat : GoodIn wsL_law (va_wsS RL 103 yL_seat wsL_seat) := goodIn_app (goodIn_of _ (by decide +kernel)) ggL_law_L_seat
set_option maxRecDepth 20000 in
theorem ggL_law_X2_seat : GoodIn wsL_law wsX2_seat := goodIn_r _ [453, 155, 339, 340, 341, 5, 342, 290, 159, 160, 161, 162, 163, 164, 165, 231, 232, 233, 234, 36, 37, 191, 34, 33, 235, 236, 112, 237, 238, 239, 240, 241, 242, 243, 244, 245, 111, 113, 246, 247, 248, 249, 250, 251, 252, 253, 254, 255, 256, 257, 258, 259, 260, 261, 262, 32, 454, 455, 456, 457, 35, 400, 401, 402, 403, 458, 459, 460, 461, 647, 648, 649, 650, 651, 652, 653, 654, 655, 656, 657, 658, 659, 660] (by decide +kernel) (by decide +kernel)
set_option maxRecDepth 20000 in
theorem gL_law_X2_seat : GoodIn wsL_law (wsV RL 105 RX2 yX2_seat wsX2_seat) := goodIn_app (goodIn_of _ (by decide +kernel)) ggL_law_X2_seat
set_option maxRecDepth 20000 in
theorem ggL_law_L_sees : GoodIn wsL_law wsL_sees := goodIn_ca (goodIn_r _ [464, 44, 465, 466, 467, 2, 468, 299, 300, 301, 302, 53, 54, 285, 307, 308, 309, 310, 17, 380, 381, 382, 383, 215, 216, 217, 218, 219, 220, 221, 222, 18, 98, 99, 100, 101, 24, 102, 103, 104, 23, 105, 106, 107, 108, 109, 110, 111, 112, 113, 114, 115, 116, 117, 118, 93, 94, 96, 97, 119, 120, 121, 122, 123, 124, 125, 126, 127, 128, 129, 130, 131, 132, 133, 134, 135, 136, 137, 138, 61, 62, 139, 140, 141, 142, 63, 64, 65, 66, 14, 143, 144, 145, 146, 147, 148, 149, 150, 636, 637, 638, 639, 640, 641, 642, 643, 644, 645, 646, 661, 662, 663, 664, 665, 666, 667, 668, 669] (by decide +kernel) (by decide +kernel)) (goodIn_sub (fun _ h => List.mem_append_left _ (List.mem_append_left _ (List.mem_append_right _ h))) (by decide +kernel))
set_option maxRecDepth 20000 in
theorem gL_law_L_sees : GoodIn wsL_law (va_wsS RL 106 yL_sees wsL_sees) := goodIn_app (goodIn_of _ (by decide +kernel)) ggL_law_L_sees
set_option maxRecDepth 20000 in
theorem ggL_law_X2_sees : GoodIn wsL_law wsX2_sees := goodIn_r _ [472, 155, 35, 339, 340, 341, 5, 342, 290, 159, 160, 161, 231, 232, 233, 234, 36, 37, 191, 34, 33, 235, 236, 112, 237, 238, 239, 240, 241, 242, 243, 244, 245, 111, 113, 246, 247, 248, 249, 250, 251, 252, 253, 254, 255, 256, 257, 258, 259, 260, 261, 262, 32, 400, 401, 402, 403, 647, 648, 649, 650, 651, 652, 653, 654, 655, 656, 657, 658, 659, 660] (by decide +kernel) (by decide +kernel)
set_option maxRecDepth 20000 in
theorem gL_law_X2_sees : GoodIn wsL_law (wsV RL 108 RX2 yX2_sees wsX2_sees) := goodIn_app (goodIn_of _ (by decide +kernel)) ggL_law_X2_sees
set_option maxRecDepth 20000 in
theorem ggL_law_L_count : GoodIn wsL_law wsL_count := goodIn_ca (goodIn_r _ [475, 44, 476, 477, 478, 2, 479, 75, 285, 298, 357, 358, 359, 53, 54, 480, 481, 482, 483, 63, 64, 65, 66, 14, 211, 212, 213, 214, 215, 216, 217, 218, 219, 220, 221, 222, 18, 484, 485, 486, 487, 323, 324, 325, 95, 96, 97, 92, 93, 94, 488, 489, 490, 491, 442, 443, 444, 445, 307, 308, 309, 310, 17, 380, 381, 382, 383, 98, 99, 100, 101, 24, 102, 103, 104, 23, 105, 106, 107, 108, 109, 110, 111, 112, 113, 114, 115, 116, 117, 118, 119, 120, 121, 122, 123, 124, 125, 126, 127, 128, 129, 130, 131, 132, 133, 134, 135, 136, 137, 138, 61, 62, 139, 140, 141, 142, 143, 144, 145, 146, 147, 148, 149, 150, 492, 493, 494, 495, 360, 361, 362, 363, 364, 365, 236, 237, 84, 85, 86, 87, 15, 88, 89, 90, 91, 16, 636, 637, 638, 639, 640, 641, 642, 643, 644, 645, 646, 661, 662, 663, 664, 665, 666, 667, 668, 669] (by decide +kernel) (by decide +kernel)) (goodIn_sub (fun _ h => List.mem_append_left _ (List.mem_append_left _ (List.mem_append_right _ h))) (by decide +kernel))
set_option maxRecDepth 20000 in
theorem gL_law_L_count : GoodIn wsL_law (va_wsS RL 109 yL_count wsL_count) := goodIn_app (goodIn_of _ (by decide +kernel)) ggL_law_L_count
set_option maxRecDepth 20000 in
theorem ggL_law_X2_count : GoodIn wsL_law wsX2_count := goodIn_r _ [499, 155, 159, 160, 5, 161, 162, 163, 164, 165, 231, 232, 233, 234, 36, 37, 191, 34, 33, 235, 236, 112, 237, 238, 239, 240, 241, 242, 243, 244, 245, 111, 113, 246, 247, 248, 249, 250, 251, 252, 253, 254, 255, 256, 257, 258, 259, 260, 261, 262, 32, 500, 501, 502, 503, 290, 338, 504, 505, 506, 507, 508, 509, 510, 511, 512, 513, 514, 515, 347, 348, 349, 156, 157, 158, 516, 517, 518, 519, 458, 459, 460, 461, 35, 400, 401, 402, 403, 520, 521, 522, 523, 647, 648, 649, 650, 651, 652, 653, 654, 655, 656, 657, 658, 659, 660] (by decide +kernel) (by decide +kernel)
set_option maxRecDepth 20000 in
theorem gL_law_X2_count : GoodIn wsL_law (wsV RL 112 RX2 yX2_count wsX2_count) := goodIn_app (goodIn_of _ (by decide +kernel)) ggL_law_X2_count
set_option maxRecDepth 20000 in
theorem ggL_law_L_far : GoodIn wsL_law wsL_far := goodIn_ca (goodIn_r _ [526, 44, 527, 528, 529, 2, 530, 24, 531, 532, 533, 53, 54, 102, 103, 104, 23, 105, 106, 107, 108, 109, 110, 111, 112, 113, 114, 115, 116, 117, 118, 93, 94, 96, 97, 119, 120, 121, 122, 123, 124, 125, 126, 127, 128, 129, 130, 636, 637, 638, 639, 640, 641, 642, 643, 644, 645, 646, 661, 662, 663, 664, 665, 666, 667, 668, 669] (by decide +kernel) (by decide +kernel)) (goodIn_sub (fun _ h => List.mem_append_left _ (List.mem_append_left _ (List.mem_append_right _ h))) (by decide +kernel))
set_option maxRecDepth 20000 in
theorem gL_law_L_far : GoodIn wsL_law (va_wsS RL 113 yL_far wsL_far) := goodIn_app (goodIn_of _ (by decide +kernel)) ggL_law_L_far
set_option maxRecDepth 20000 in
theorem ggL_law_X2_far : GoodIn wsL_law wsX2_far := goodIn_r _ [537, 155, 258, 538, 539, 5, 540, 159, 160, 161, 162, 163, 164, 165, 254, 255, 256, 257, 245, 111, 112, 113, 253, 259, 260, 261, 262, 32, 647, 648, 649, 650, 651, 652, 653, 654, 655, 656, 657, 658, 659, 660] (by decide +kernel) (by decide +kernel)
set_option maxRecDepth 20000 in
theorem gL_law_X2_far : GoodIn wsL_law (wsV RL 115 RX2 yX2_far wsX2_far) := goodIn_app (goodIn_of _ (by decide +kernel)) ggL_law_X2_far
set_option maxRecDepth 20000 in
theorem ggL_law_L_stops : GoodIn wsL_law wsL_stops := goodIn_ca (goodIn_r _ [543, 44, 544, 545, 546, 2, 547, 531, 532, 533, 53, 54, 98, 99, 100, 101, 24, 102, 103, 104, 23, 105, 106, 107, 108, 109, 110, 111, 112, 113, 114, 115, 116, 117, 118, 93, 94, 96, 97, 119, 120, 121, 122, 123, 124, 125, 126, 127, 128, 129, 130, 131, 132, 133, 134, 135, 136, 137, 138, 61, 62, 139, 140, 141, 142, 63, 64, 65, 66, 14, 143, 144, 145, 146, 147, 148, 149, 150, 636, 637, 638, 639, 640, 641, 642, 643, 644, 645, 646, 661, 662, 663, 664, 665, 666, 667, 668, 669] (by decide +kernel) (by decide +kernel)) (goodIn_sub (fun _ h => List.mem_append_left _ (List.mem_append_left _ (List.mem_append_right _ h))) (by decide +kernel))
set_option maxRecDepth 20000 in
theorem gL_law_L_stops : GoodIn wsL_law (va_wsS RL 116 yL_stops wsL_stops) := goodIn_app (goodIn_of _ (by decide +kernel)) ggL_law_L_stops
set_option maxRecDepth 20000 in
theorem ggL_law_X2_stops : GoodIn wsL_law wsX2_stops := goodIn_r _ [551, 155, 538, 539, 5, 540, 159, 160, 161, 249, 250, 251, 252, 253, 254, 255, 256, 257, 245, 111, 112, 113, 258, 259, 260, 261, 262, 32, 162, 163, 164, 165, 647, 648, 649, 650, 651, 652, 653, 654, 655, 656, 657, 658, 659, 660] (by decide +kernel) (by decide +kernel)
set_option maxRecDepth 20000 in
theorem gL_law_X2_stops : GoodIn wsL_law (wsV RL 118 RX2 yX2_stops wsX2_stops) := goodIn_app (goodIn_of _ (by decide +kernel)) ggL_law_X2_stops
set_option maxRecDepth 20000 in
theorem ggL_law_L_creeps : GoodIn wsL_law wsL_creeps := goodIn_ca (goodIn_r _ [554, 44, 555, 556, 557, 2, 558, 299, 300, 301, 302, 53, 54, 285, 50, 51, 52, 60, 61, 62, 303, 304, 305, 306, 307, 308, 309, 310, 17, 311, 312, 313, 314, 19, 20, 315, 316, 317, 318, 319, 320, 321, 322, 323, 324, 325, 95, 96, 97, 92, 93, 94, 326, 327, 328, 329, 63, 64, 65, 66, 14, 215, 216, 217, 218, 219, 220, 221, 222, 18, 636, 637, 638, 639, 640, 641, 642, 643, 644, 645, 646] (by decide +kernel) (by decide +kernel)) (goodIn_sub (fun _ h => List.mem_append_left _ (List.mem_append_left _ (List.mem_append_right _ h))) (by decide +kernel))
set_option maxRecDepth 20000 in
theorem gL_law_L_creeps : GoodIn wsL_law (va_wsS RL 119 yL_creeps wsL_creeps) := goodIn_app (goodIn_of _ (by decide +kernel)) ggL_law_L_creeps
set_option maxRecDepth 20000 in
theorem ggL_law_X2_creeps : GoodIn wsL_law wsX2_creeps := goodIn_r _ [562, 155, 35, 339, 340, 341, 5, 342, 290, 159, 160, 161, 156, 157, 158, 162, 163, 164, 165, 231, 232, 233, 234, 36, 37, 191, 34, 33, 235, 236, 112, 237, 238, 239, 240, 241, 242, 243, 244, 245, 111, 113, 246, 247, 248, 249, 250, 251, 252, 253, 254, 255, 256, 257, 258, 259, 260, 261, 262, 32, 343, 344, 345, 346, 38, 39, 347, 348, 349, 647, 648, 649, 650, 651, 652, 653, 654, 655, 656, 657, 658, 659, 660] (by decide +kernel) (by decide +kernel)
set_option maxRecDepth 20000 in
theorem gL_law_X2_creeps : GoodIn wsL_law (wsV RL 121 RX2 yX2_creeps wsX2_creeps) := goodIn_app (goodIn_of _ (by decide +kernel)) ggL_law_X2_creeps
set_option maxRecDepth 20000 in
theorem ggL_law_L_would : GoodIn wsL_law wsL_would := goodIn_ca (goodIn_ca (goodIn_r _ [565, 44, 45, 566, 567, 568, 2, 569, 50, 51, 52, 53, 54, 55, 56, 57, 58, 59, 60, 61, 62, 63, 64, 65, 66, 14, 67, 68, 69, 70, 570, 571, 572, 573, 574, 575, 576, 577, 75, 80, 81, 82, 83, 84, 85, 86, 87, 15, 88, 89, 90, 91, 16, 92, 93, 94, 95, 96, 97, 98, 99, 100, 101, 24, 102, 103, 104, 23, 105, 106, 107, 108, 109, 110, 111, 112, 113, 114, 115, 116, 117, 118, 119, 120, 121, 122, 123, 124, 125, 126, 127, 128, 129, 130, 131, 132, 133, 134, 135, 136, 137, 138, 139, 140, 141, 142, 143, 144, 145, 146, 147, 148, 149, 150, 211, 212, 213, 214, 215, 216, 217, 218, 219, 220, 221, 222, 18, 636, 637, 638, 639, 640, 641, 642, 643, 644, 645, 646, 661, 662, 663, 664, 665, 666, 667, 668, 669] (by decide +kernel) (by decide +kernel)) (goodIn_sub (fun _ h => List.mem_append_left _ (List.mem_append_left _ (List.mem_append_right _ h))) (by decide +kernel))) (goodIn_sub (fun _ h => List.mem_append_left _ (List.mem_append_right _ h)) (by decide +kernel))
set_option maxRecDepth 20000 in
theorem gL_law_L_would : GoodIn wsL_law (va_wsS RL 122 yL_would wsL_would) := goodIn_app (goodIn_of _ (by decide +kernel)) ggL_law_L_would
set_option maxRecDepth 20000 in
theorem ggL_law_X2_would : GoodIn wsL_law wsX2_would := goodIn_r _ [581, 155, 32, 156, 157, 5, 158, 159, 160, 161, 162, 163, 164, 165, 231, 232, 233, 234, 36, 37, 191, 34, 33, 235, 236, 112, 237, 238, 239, 240, 241, 242, 243, 244, 245, 111, 113, 246, 247, 248, 249, 250, 251, 252, 253, 254, 255, 256, 257, 258, 259, 260, 261, 262, 647, 648, 649, 650, 651, 652, 653, 654, 655, 656, 657, 658, 659, 660] (by decide +kernel) (by decide +kernel)
set_option maxRecDepth 20000 in
theorem gL_law_X2_would : GoodIn wsL_law (wsV RL 124 RX2 yX2_would wsX2_would) := goodIn_app (goodIn_of _ (by decide +kernel)) ggL_law_X2_would
set_option maxRecDepth 20000 in
theorem ggL_law_L_advise : GoodIn wsL_law wsL_advise := goodIn_ca (goodIn_r _ [584, 44, 585, 586, 587, 2, 588, 203, 204, 205, 206, 53, 54, 75, 84, 85, 86, 87, 15, 211, 212, 213, 214, 215, 216, 217, 218, 219, 220, 221, 222, 18, 323, 324, 325, 95, 96, 97, 92, 93, 94, 183, 184, 185, 186, 589, 590, 591, 592, 207, 208, 209, 210, 80, 81, 82, 83, 88, 89, 90, 91, 16, 98, 99, 100, 101, 24, 102, 103, 104, 23, 105, 106, 107, 108, 109, 110, 111, 112, 113, 114, 115, 116, 117, 118, 119, 120, 121, 122, 123, 124, 125, 126, 127, 128, 129, 130, 131, 132, 133, 134, 135, 136, 137, 138, 61, 62, 139, 140, 141, 142, 63, 64, 65, 66, 14, 143, 144, 145, 146, 147, 148, 149, 150, 636, 637, 638, 639, 640, 641, 642, 643, 644, 645, 646, 661, 662, 663, 664, 665, 666, 667, 668, 669] (by decide +kernel) (by decide +kernel)) (goodIn_sub (fun _ h => List.mem_append_left _ (List.mem_append_left _ (List.mem_append_right _ h))) (by decide +kernel))
set_option maxRecDepth 20000 in
theorem gL_law_L_advise : GoodIn wsL_law (va_wsS RL 125 yL_advise wsL_advise) := goodIn_app (goodIn_of _ (by decide +kernel)) ggL_law_L_advise
set_option maxRecDepth 20000 in
theorem ggL_law_X2_advise : GoodIn wsL_law wsX2_advise := goodIn_r _ [596, 155, 33, 13, 227, 228, 229, 5, 230, 191, 159, 160, 161, 162, 163, 164, 165, 231, 232, 233, 234, 36, 37, 34, 235, 236, 112, 237, 238, 239, 240, 241, 242, 243, 244, 245, 111, 113, 246, 247, 248, 249, 250, 251, 252, 253, 254, 255, 256, 257, 258, 259, 260, 261, 262, 32, 347, 348, 349, 156, 157, 158, 192, 193, 194, 195, 647, 648, 649, 650, 651, 652, 653, 654, 655, 656, 657, 658, 659, 660] (by decide +kernel) (by decide +kernel)
set_option maxRecDepth 20000 in
theorem gL_law_X2_advise : GoodIn wsL_law (wsV RL 127 RX2 yX2_advise wsX2_advise) := goodIn_app (goodIn_of _ (by decide +kernel)) ggL_law_X2_advise
set_option maxRecDepth 20000 in
theorem ggL_law_X1_darkest : GoodIn wsL_law wsX1_darkest := goodIn_r _ [600, 63, 64, 65, 2, 66, 14, 601, 602, 603, 604, 215, 216, 217, 218, 219, 220, 221, 222, 18, 360, 361, 362, 363, 75, 364, 111, 112, 113, 365, 236, 237, 84, 85, 86, 87, 15, 92, 93, 94, 95, 96, 97, 88, 89, 90, 91, 16, 636, 637, 638, 639, 640, 641, 642, 643, 644, 645, 646] (by decide +kernel) (by decide +kernel)
set_option maxRecDepth 20000 in
theorem gL_law_X1_darkest : GoodIn wsL_law (wsV RL 128 RX1 yX1_darkest wsX1_darkest) := goodIn_app (goodIn_of _ (by decide +kernel)) ggL_law_X1_darkest
set_option maxRecDepth 20000 in
theorem ggL_law_X2_darkest : GoodIn wsL_law wsX2_darkest := goodIn_r _ [608, 155, 32, 231, 232, 233, 5, 234, 36, 37, 191, 34, 33, 235, 236, 112, 237, 238, 239, 240, 241, 242, 243, 244, 245, 111, 113, 246, 247, 248, 249, 250, 251, 252, 253, 254, 255, 256, 257, 258, 259, 260, 261, 262, 609, 610, 611, 612, 647, 648, 649, 650, 651, 652, 653, 654, 655, 656, 657, 658, 659, 660] (by decide +kernel) (by decide +kernel)
set_option maxRecDepth 20000 in
theorem gL_law_X2_darkest : GoodIn wsL_law (wsV RL 131 RX2 yX2_darkest wsX2_darkest) := goodIn_app (goodIn_of _ (by decide +kernel)) ggL_law_X2_darkest
set_option maxRecDepth 20000 in
theorem ggL_law_X1_mean : GoodIn wsL_law wsX1_mean := goodIn_r _ [616, 211, 212, 213, 2, 214, 215, 216, 217, 218, 219, 220, 221, 222, 18, 492, 493, 494, 495, 360, 361, 362, 363, 75, 364, 111, 112, 113, 365, 236, 237, 84, 85, 86, 87, 15, 92, 93, 94, 95, 96, 97, 88, 89, 90, 91, 16, 636, 637, 638, 639, 640, 641, 642, 643, 644, 645, 646] (by decide +kernel) (by decide +kernel)
set_option maxRecDepth 20000 in
theorem gL_law_X1_mean : GoodIn wsL_law (wsV RL 132 RX1 yX1_mean wsX1_mean) := goodIn_app (goodIn_of _ (by decide +kernel)) ggL_law_X1_mean
set_option maxRecDepth 20000 in
theorem ggL_law_X2_mean : GoodIn wsL_law wsX2_mean := goodIn_r _ [620, 155, 231, 232, 233, 5, 234, 36, 37, 191, 34, 33, 235, 236, 112, 237, 238, 239, 240, 241, 242, 243, 244, 245, 111, 113, 246, 247, 248, 249, 250, 251, 252, 253, 254, 255, 256, 257, 258, 259, 260, 261, 262, 32, 520, 521, 522, 523, 647, 648, 649, 650, 651, 652, 653, 654, 655, 656, 657, 658, 659, 660] (by decide +kernel) (by decide +kernel)
set_option maxRecDepth 20000 in
theorem gL_law_X2_mean : GoodIn wsL_law (wsV RL 136 RX2 yX2_mean wsX2_mean) := goodIn_app (goodIn_of _ (by decide +kernel)) ggL_law_X2_mean
set_option maxRecDepth 20000 in
theorem ggL_law_X1_digest : GoodIn wsL_law wsX1_digest := goodIn_ca (goodIn_r _ [624, 625, 626, 75, 285, 627, 477, 478, 2, 479, 298, 357, 358, 359, 53, 54, 480, 481, 482, 483, 63, 64, 65, 66, 14, 211, 212, 213, 214, 215, 216, 217, 218, 219, 220, 221, 222, 18, 484, 485, 486, 487, 323, 324, 325, 95, 96, 97, 92, 93, 94, 488, 489, 490, 491, 442, 443, 444, 445, 307, 308, 309, 310, 17, 380, 381, 382, 383, 98, 99, 100, 101, 24, 102, 103, 104, 23, 105, 106, 107, 108, 109, 110, 111, 112, 113, 114, 115, 116, 117, 118, 119, 120, 121, 122, 123, 124, 125, 126, 127, 128, 129, 130, 131, 132, 133, 134, 135, 136, 137, 138, 61, 62, 139, 140, 141, 142, 143, 144, 145, 146, 147, 148, 149, 150, 492, 493, 494, 495, 360, 361, 362, 363, 364, 365, 236, 237, 84, 85, 86, 87, 15, 88, 89, 90, 91, 16, 366, 367, 368, 369, 370, 371, 628, 408, 409, 410, 203, 204, 205, 206, 411, 412, 413, 414, 415, 416, 417, 418, 629, 435, 436, 437, 299, 300, 301, 302, 438, 439, 440, 441, 446, 447, 448, 449, 636, 637, 638, 639, 640, 641, 642, 643, 644, 645, 646, 661, 662, 663, 664, 665, 666, 667, 668, 669] (by decide +kernel) (by decide +kernel)) (goodIn_sub (fun _ h => List.mem_append_left _ (List.mem_append_left _ (List.mem_append_right _ h))) (by decide +kernel))
set_option maxRecDepth 20000 in
theorem gL_law_X1_digest : GoodIn wsL_law (wsV RL 137 RX1 yX1_digest wsX1_digest) := goodIn_app (goodIn_of _ (by decide +kernel)) ggL_law_X1_digest
set_option maxRecDepth 20000 in
theorem ggL_law_X2_digest : GoodIn wsL_law wsX2_digest := goodIn_r _ [633, 155, 634, 635, 32, 36, 191, 290, 231, 232, 233, 5, 234, 37, 34, 33, 235, 236, 112, 237, 238, 239, 240, 241, 242, 243, 244, 245, 111, 113, 246, 247, 248, 249, 250, 251, 252, 253, 254, 255, 256, 257, 258, 259, 260, 261, 262, 500, 501, 502, 503, 338, 504, 505, 506, 507, 508, 509, 510, 511, 512, 513, 514, 515, 347, 348, 349, 156, 157, 158, 159, 160, 161, 516, 517, 518, 519, 458, 459, 460, 461, 35, 400, 401, 402, 403, 520, 521, 522, 523, 423, 424, 425, 426, 427, 428, 429, 430, 454, 455, 456, 457, 647, 648, 649, 650, 651, 652, 653, 654, 655, 656, 657, 658, 659, 660] (by decide +kernel) (by decide +kernel)
set_option maxRecDepth 20000 in
theorem gL_law_X2_digest : GoodIn wsL_law (wsV RL 141 RX2 yX2_digest wsX2_digest) := goodIn_app (goodIn_of _ (by decide +kernel)) ggL_law_X2_digest
theorem dL_law_0 : decode cL_law 0 = .ok (.new 8, 3) := by decide +kernel
theorem dL_law_3 : decode cL_law 3 = .ok (.dup, 1) := by decide +kernel
