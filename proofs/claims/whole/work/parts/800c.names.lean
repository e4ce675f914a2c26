theorem dL_worth_1 : decode cL_worth 1 = .ok (.iconst 0, 1) := by decide +kernel
theorem dL_worth_2 : decode cL_worth 2 = .ok (.aload_n 0, 1) := by decide +kernel
theorem dL_worth_3 : decode cL_worth 3 = .ok (.iload_n 1, 1) := by decide +kernel
theorem dL_worth_4 : decode cL_worth 4 = .ok (.iload_n 2, 1) := by decide +kernel
theorem dL_worth_5 : decode cL_worth 5 = .ok (.invokevirtual 25, 3) := by decide +kernel
theorem dL_worth_8 : decode cL_worth 8 = .ok (.i2l, 1) := by decide +kernel
theorem dL_worth_9 : decode cL_worth 9 = .ok (.lastore, 1) := by decide +kernel
theorem dL_worth_10 : decode cL_worth 10 = .ok (.goto 11, 3) := by decide +kernel
theorem dL_worth_13 : decode cL_worth 13 = .ok (.astore 4, 2) := by decide +kernel
theorem dL_worth_15 : decode cL_worth 15 = .ok (.iconst 1, 1) := by decide +kernel
theorem dL_worth_16 : decode cL_worth 16 = .ok (.ireturn, 1) := by decide +kernel
theorem dL_worth_17 : decode cL_worth 17 = .ok (.astore 4, 2) := by decide +kernel
theorem dL_worth_19 : decode cL_worth 19 = .ok (.iconst 2, 1) := by decide +kernel
theorem dL_worth_20 : decode cL_worth 20 = .ok (.ireturn, 1) := by decide +kernel
theorem dL_worth_21 : decode cL_worth 21 = .ok (.iconst 0, 1) := by decide +kernel
theorem dL_worth_22 : decode cL_worth 22 = .ok (.ireturn, 1) := by decide +kernel
set_option maxRecDepth 20000 in
theorem ggL_taste_X9_taste : GoodIn wsL_taste wsX9_taste := goodIn_ca (goodIn_ca (goodIn_r _ [7, 8, 9, 10, 11, 12, 13, 14, 6, 15, 16, 17, 18, 19, 20, 21, 22, 23, 24, 25, 26, 27, 28, 29, 30, 31, 32, 33, 34, 35, 36, 37, 38, 39, 40, 41, 42, 43, 44, 45, 46, 47, 48, 49, 50, 51, 52, 53, 54, 55, 56, 57, 58, 59, 60, 61, 62, 63, 64, 65, 66, 67, 68, 69, 70, 71] (by decide +kernel) (by decide +kernel)) (goodIn_sub (fun _ h => List.mem_cons_of_mem _ (List.mem_append_left _ (List.mem_append_right _ h))) (by decide +kernel))) (goodIn_sub (fun _ h => List.mem_cons_of_mem _ (List.mem_append_right _ h)) (by decide +kernel))
set_option maxRecDepth 20000 in
theorem gL_taste_X9_taste : GoodIn wsL_taste (wsV RL 28 RX9 yX9_taste wsX9_taste) := goodIn_app (goodIn_of _ (by decide +kernel)) ggL_taste_X9_taste
theorem dL_taste_0 : decode cL_taste 0 = .ok (.aload_n 3, 1) := by decide +kernel
theorem dL_taste_1 : decode cL_taste 1 = .ok (.iconst 0, 1) := by decide +kernel
theorem dL_taste_2 : decode cL_taste 2 = .ok (.aload_n 0, 1) := by decide +kernel
theorem dL_taste_3 : decode cL_taste 3 = .ok (.iload_n 1, 1) := by decide +kernel
theorem dL_taste_4 : decode cL_taste 4 = .ok (.iload_n 2, 1) := by decide +kernel
theorem dL_taste_5 : decode cL_taste 5 = .ok (.invokevirtual 28, 3) := by decide +kernel
theorem dL_taste_8 : decode cL_taste 8 = .ok (.i2l, 1) := by decide +kernel
theorem dL_taste_9 : decode cL_taste 9 = .ok (.lastore, 1) := by decide +kernel
theorem dL_taste_10 : decode cL_taste 10 = .ok (.goto 11, 3) := by decide +kernel
theorem dL_taste_13 : decode cL_taste 13 = .ok (.astore 4, 2) := by decide +kernel
theorem dL_taste_15 : decode cL_taste 15 = .ok (.iconst 1, 1) := by decide +kernel
theorem dL_taste_16 : decode cL_taste 16 = .ok (.ireturn, 1) := by decide +kernel
theorem dL_taste_17 : decode cL_taste 17 = .ok (.astore 4, 2) := by decide +kernel
theorem dL_taste_19 : decode cL_taste 19 = .ok (.iconst 2, 1) := by decide +kernel
theorem dL_taste_20 : decode cL_taste 20 = .ok (.ireturn, 1) := by decide +kernel
theorem dL_taste_21 : decode cL_taste 21 = .ok (.iconst 0, 1) := by decide +kernel
theorem dL_taste_22 : decode cL_taste 22 = .ok (.ireturn, 1) := by decide +kernel
set_option maxRecDepth 20000 in
theorem ggL_put_X9_put : GoodIn wsL_put wsX9_put := goodIn_ca (goodIn_ca (goodIn_ca (goodIn_r _ [8, 9, 10, 11, 12, 13, 14, 15, 16, 17, 7, 18, 19, 20, 21, 22, 23, 24, 25, 26, 27, 28, 29, 30, 31, 32, 33, 34, 35, 36, 37, 38, 39, 40, 41, 42, 43, 44, 45, 46, 47, 48, 49, 50, 51, 52, 53, 54, 55, 56, 57, 58, 59, 60, 61, 62, 63, 64, 65, 66, 67, 68, 69, 70, 71, 72, 73, 74, 75, 76] (by decide +kernel) (by decide +kernel)) (goodIn_sub (fun _ h => List.mem_cons_of_mem _ (List.mem_append_left _ (List.mem_append_left _ (List.mem_append_right _ h)))) (by decide +kernel))) (goodIn_sub (fun _ h => List.mem_cons_of_mem _ (List.mem_append_left _ (List.mem_append_right _ h))) (by decide +kernel))) (goodIn_sub (fun _ h => List.mem_cons_of_mem _ (List.mem_append_right _ h)) (by decide +kernel))
set_option maxRecDepth 20000 in
theorem gL_put_X9_put : GoodIn wsL_put (wsV RL 31 RX9 yX9_put wsX9_put) := goodIn_app (goodIn_of _ (by decide +kernel)) ggL_put_X9_put
theorem dL_put_0 : decode cL_put 0 = .ok (.aload 4, 2) := by decide +kernel
theorem dL_put_2 : decode cL_put 2 = .ok (.iconst 0, 1) := by decide +kernel
theorem dL_put_3 : decode cL_put 3 = .ok (.aload_n 0, 1) := by decide +kernel
theorem dL_put_4 : decode cL_put 4 = .ok (.iload_n 1, 1) := by decide +kernel
theorem dL_put_5 : decode cL_put 5 = .ok (.iload_n 2, 1) := by decide +kernel
theorem dL_put_6 : decode cL_put 6 = .ok (.iload_n 3, 1) := by decide +kernel
theorem dL_put_7 : decode cL_put 7 = .ok (.invokevirtual 31, 3) := by decide +kernel
theorem dL_put_10 : decode cL_put 10 = .ok (.i2l, 1) := by decide +kernel
theorem dL_put_11 : decode cL_put 11 = .ok (.lastore, 1) := by decide +kernel
theorem dL_put_12 : decode cL_put 12 = .ok (.goto 15, 3) := by decide +kernel
theorem dL_put_15 : decode cL_put 15 = .ok (.astore 5, 2) := by decide +kernel
theorem dL_put_17 : decode cL_put 17 = .ok (.iconst 1, 1) := by decide +kernel
theorem dL_put_18 : decode cL_put 18 = .ok (.ireturn, 1) := by decide +kernel
theorem dL_put_19 : decode cL_put 19 = .ok (.astore 5, 2) := by decide +kernel
theorem dL_put_21 : decode cL_put 21 = .ok (.iconst 2, 1) := by decide +kernel
theorem dL_put_22 : decode cL_put 22 = .ok (.ireturn, 1) := by decide +kernel
theorem dL_put_23 : decode cL_put 23 = .ok (.astore 5, 2) := by decide +kernel
theorem dL_put_25 : decode cL_put 25 = .ok (.iconst 3, 1) := by decide +kernel
theorem dL_put_26 : decode cL_put 26 = .ok (.ireturn, 1) := by decide +kernel
theorem dL_put_27 : decode cL_put 27 = .ok (.iconst 0, 1) := by decide +kernel
theorem dL_put_28 : decode cL_put 28 = .ok (.ireturn, 1) := by decide +kernel
set_option maxRecDepth 20000 in
theorem ggL_move_X9_move : GoodIn wsL_move wsX9_move := goodIn_ca (goodIn_ca (goodIn_r _ [7, 8, 9, 10, 11, 12, 13, 14, 6, 15, 16, 17, 18, 19, 20, 21, 22, 23, 24, 25, 26, 27, 28, 29, 30, 31, 32, 33, 34, 35, 36, 37, 38, 39, 40, 41, 42, 43, 44, 45, 46, 47, 48, 49, 50, 51, 52, 53, 54, 55, 56, 57, 58] (by decide +kernel) (by decide +kernel)) (goodIn_sub (fun _ h => List.mem_cons_of_mem _ (List.mem_append_left _ (List.mem_append_right _ h))) (by decide +kernel))) (goodIn_sub (fun _ h => List.mem_cons_of_mem _ (List.mem_append_right _ h)) (by decide +kernel))
set_option maxRecDepth 20000 in
theorem gL_move_X9_move : GoodIn wsL_move (wsV RL 36 RX9 yX9_move wsX9_move) := goodIn_app (goodIn_of _ (by decide +kernel)) ggL_move_X9_move
theorem dL_move_0 : decode cL_move 0 = .ok (.aload 4, 2) := by decide +kernel
theorem dL_move_2 : decode cL_move 2 = .ok (.iconst 0, 1) := by decide +kernel
theorem dL_move_3 : decode cL_move 3 = .ok (.aload_n 0, 1) := by decide +kernel
theorem dL_move_4 : decode cL_move 4 = .ok (.iload_n 1, 1) := by decide +kernel
theorem dL_move_5 : decode cL_move 5 = .ok (.iload_n 2, 1) := by decide +kernel
theorem dL_move_6 : decode cL_move 6 = .ok (.iload_n 3, 1) := by decide +kernel
theorem dL_move_7 : decode cL_move 7 = .ok (.invokevirtual 36, 3) := by decide +kernel
theorem dL_move_10 : decode cL_move 10 = .ok (.i2l, 1) := by decide +kernel
theorem dL_move_11 : decode cL_move 11 = .ok (.lastore, 1) := by decide +kernel
theorem dL_move_12 : decode cL_move 12 = .ok (.goto 11, 3) := by decide +kernel
theorem dL_move_15 : decode cL_move 15 = .ok (.astore 5, 2) := by decide +kernel
theorem dL_move_17 : decode cL_move 17 = .ok (.iconst 1, 1) := by decide +kernel
theorem dL_move_18 : decode cL_move 18 = .ok (.ireturn, 1) := by decide +kernel
theorem dL_move_19 : decode cL_move 19 = .ok (.astore 5, 2) := by decide +kernel
theorem dL_move_21 : decode cL_move 21 = .ok (.iconst 2, 1) := by decide +kernel
theorem dL_move_22 : decode cL_move 22 = .ok (.ireturn, 1) := by decide +kernel
theorem dL_move_23 : decode cL_move 23 = .ok (.iconst 0, 1) := by decide +kernel
theorem dL_move_24 : decode cL_move 24 = .ok (.ireturn, 1) := by decide +kernel
set_option maxRecDepth 20000 in
theorem ggL_cell_X9_cell : GoodIn wsL_cell wsX9_cell := goodIn_ca (goodIn_ca (goodIn_r _ [7, 8, 9, 10, 11, 12, 13, 14, 6, 15, 16, 17, 18, 19, 20, 21, 22, 23, 24, 25, 26, 27, 28, 29, 30, 31, 32, 33, 34, 35, 36, 37, 38] (by decide +kernel) (by decide +kernel)) (goodIn_sub (fun _ h => List.mem_cons_of_mem _ (List.mem_append_left _ (List.mem_append_right _ h))) (by decide +kernel))) (goodIn_sub (fun _ h => List.mem_cons_of_mem _ (List.mem_append_right _ h)) (by decide +kernel))
set_option maxRecDepth 20000 in
theorem gL_cell_X9_cell : GoodIn wsL_cell (wsV RL 39 RX9 yX9_cell wsX9_cell) := goodIn_app (goodIn_of _ (by decide +kernel)) ggL_cell_X9_cell
theorem dL_cell_0 : decode cL_cell 0 = .ok (.aload_n 3, 1) := by decide +kernel
theorem dL_cell_1 : decode cL_cell 1 = .ok (.iconst 0, 1) := by decide +kernel
theorem dL_cell_2 : decode cL_cell 2 = .ok (.aload_n 0, 1) := by decide +kernel
theorem dL_cell_3 : decode cL_cell 3 = .ok (.iload_n 1, 1) := by decide +kernel
theorem dL_cell_4 : decode cL_cell 4 = .ok (.iload_n 2, 1) := by decide +kernel
theorem dL_cell_5 : decode cL_cell 5 = .ok (.invokevirtual 39, 3) := by decide +kernel
theorem dL_cell_8 : decode cL_cell 8 = .ok (.i2l, 1) := by decide +kernel
theorem dL_cell_9 : decode cL_cell 9 = .ok (.lastore, 1) := by decide +kernel
theorem dL_cell_10 : decode cL_cell 10 = .ok (.goto 11, 3) := by decide +kernel
theorem dL_cell_13 : decode cL_cell 13 = .ok (.astore 4, 2) := by decide +kernel
theorem dL_cell_15 : decode cL_cell 15 = .ok (.iconst 1, 1) := by decide +kernel
theorem dL_cell_16 : decode cL_cell 16 = .ok (.ireturn, 1) := by decide +kernel
theorem dL_cell_17 : decode cL_cell 17 = .ok (.astore 4, 2) := by decide +kernel
theorem dL_cell_19 : decode cL_cell 19 = .ok (.iconst 2, 1) := by decide +kernel
theorem dL_cell_20 : decode cL_cell 20 = .ok (.ireturn, 1) := by decide +kernel
theorem dL_cell_21 : decode cL_cell 21 = .ok (.iconst 0, 1) := by decide +kernel
theorem dL_cell_22 : decode cL_cell 22 = .ok (.ireturn, 1) := by decide +kernel
set_option maxRecDepth 20000 in
theorem ggL_find_X9_find : GoodIn wsL_find wsX9_find := goodIn_ca (goodIn_r _ [6, 7, 8, 9, 10, 5, 11, 12, 13, 14, 15, 16, 17, 18, 19, 20, 21, 22, 23, 24, 25, 26, 27, 28, 29, 30, 31, 32, 33, 34, 35, 36, 37, 38, 39] (by decide +kernel) (by decide +kernel)) (goodIn_sub (fun _ h => List.mem_cons_of_mem _ (List.mem_append_right _ h)) (by decide +kernel))
set_option maxRecDepth 20000 in
theorem gL_find_X9_find : GoodIn wsL_find (wsV RL 42 RX9 yX9_find wsX9_find) := goodIn_app (goodIn_of _ (by decide +kernel)) ggL_find_X9_find
theorem dL_find_0 : decode cL_find 0 = .ok (.aload_n 3, 1) := by decide +kernel
theorem dL_find_1 : decode cL_find 1 = .ok (.iconst 0, 1) := by decide +kernel
theorem dL_find_2 : decode cL_find 2 = .ok (.aload_n 0, 1) := by decide +kernel
theorem dL_find_3 : decode cL_find 3 = .ok (.iload_n 1, 1) := by decide +kernel
theorem dL_find_4 : decode cL_find 4 = .ok (.iload_n 2, 1) := by decide +kernel
theorem dL_find_5 : decode cL_find 5 = .ok (.invokevirtual 42, 3) := by decide +kernel
theorem dL_find_8 : decode cL_find 8 = .ok (.i2l, 1) := by decide +kernel
theorem dL_find_9 : decode cL_find 9 = .ok (.lastore, 1) := by decide +kernel
theorem dL_find_10 : decode cL_find 10 = .ok (.goto 7, 3) := by decide +kernel
theorem dL_find_13 : decode cL_find 13 = .ok (.astore 4, 2) := by decide +kernel
theorem dL_find_15 : decode cL_find 15 = .ok (.iconst 1, 1) := by decide +kernel
theorem dL_find_16 : decode cL_find 16 = .ok (.ireturn, 1) := by decide +kernel
theorem dL_find_17 : decode cL_find 17 = .ok (.iconst 0, 1) := by decide +kernel
theorem dL_find_18 : decode cL_find 18 = .ok (.ireturn, 1) := by decide +kernel
set_option maxRecDepth 20000 in
theorem ggL_sell_X9_sell : GoodIn wsL_sell wsX9_sell := goodIn_ca (goodIn_ca (goodIn_r _ [6, 7, 8, 9, 10, 11, 12, 13, 5, 14, 15, 16, 17, 18, 19, 20, 21, 22, 23, 24, 25, 26, 27, 28, 29, 30, 31, 32, 33, 34, 35, 36, 37, 38, 39, 40, 41, 42, 43, 44, 45, 46, 47, 48, 49, 50, 51, 52, 53, 54, 55, 56, 57, 58, 59, 60, 61, 62, 63, 64, 65, 66, 67, 68, 69, 70, 71, 72, 73, 74, 75, 76, 77, 78, 79, 80, 81, 82, 83, 84, 85, 86, 87, 88, 89, 90, 91, 92, 93, 94, 95, 96, 97] (by decide +kernel) (by decide +kernel)) (goodIn_sub (fun _ h => List.mem_cons_of_mem _ (List.mem_append_left _ (List.mem_append_right _ h))) (by decide +kernel))) (goodIn_sub (fun _ h => List.mem_cons_of_mem _ (List.mem_append_right _ h)) (by decide +kernel))
set_option maxRecDepth 20000 in
theorem gL_sell_X9_sell : GoodIn wsL_sell (wsV RL 45 RX9 yX9_sell wsX9_sell) := goodIn_app (goodIn_of _ (by decide +kernel)) ggL_sell_X9_sell
theorem dL_sell_0 : decode cL_sell 0 = .ok (.aload_n 2, 1) := by decide +kernel
theorem dL_sell_1 : decode cL_sell 1 = .ok (.iconst 0, 1) := by decide +kernel
theorem dL_sell_2 : decode cL_sell 2 = .ok (.aload_n 0, 1) := by decide +kernel
theorem dL_sell_3 : decode cL_sell 3 = .ok (.iload_n 1, 1) := by decide +kernel
theorem dL_sell_4 : decode cL_sell 4 = .ok (.invokevirtual 45, 3) := by decide +kernel
theorem dL_sell_7 : decode cL_sell 7 = .ok (.i2l, 1) := by decide +kernel
theorem dL_sell_8 : decode cL_sell 8 = .ok (.lastore, 1) := by decide +kernel
theorem dL_sell_9 : decode cL_sell 9 = .ok (.goto 6, 3) := by decide +kernel
theorem dL_sell_12 : decode cL_sell 12 = .ok (.astore_n 3, 1) := by decide +kernel
theorem dL_sell_13 : decode cL_sell 13 = .ok (.iconst 1, 1) := by decide +kernel
theorem dL_sell_14 : decode cL_sell 14 = .ok (.ireturn, 1) := by decide +kernel
theorem dL_sell_15 : decode cL_sell 15 = .ok (.iconst 0, 1) := by decide +kernel
theorem dL_sell_16 : decode cL_sell 16 = .ok (.ireturn, 1) := by decide +kernel
set_option maxRecDepth 20000 in
theorem ggL_broken_X9_broken : GoodIn wsL_broken wsX9_broken := goodIn_ca (goodIn_r _ [6, 7, 8, 9, 10, 11, 12, 5, 13, 14, 15, 16, 17, 18, 19, 20, 21, 22, 23, 24, 25, 26, 27, 28, 29, 30, 31, 32, 33, 34, 35, 36, 37, 38, 39, 40, 41, 42, 43, 44, 45, 46, 47, 48, 49, 50, 51, 52] (by decide +kernel) (by decide +kernel)) (goodIn_sub (fun _ h => List.mem_cons_of_mem _ (List.mem_append_right _ h)) (by decide +kernel))
set_option maxRecDepth 20000 in
theorem gL_broken_X9_broken : GoodIn wsL_broken (wsV RL 49 RX9 yX9_broken wsX9_broken) := goodIn_app (goodIn_of _ (by decide +kernel)) ggL_broken_X9_broken
theorem dL_broken_0 : decode cL_broken 0 = .ok (.aload_n 2, 1) := by decide +kernel
theorem dL_broken_1 : decode cL_broken 1 = .ok (.iconst 0, 1) := by decide +kernel
theorem dL_broken_2 : decode cL_broken 2 = .ok (.aload_n 0, 1) := by decide +kernel
theorem dL_broken_3 : decode cL_broken 3 = .ok (.iload_n 1, 1) := by decide +kernel
theorem dL_broken_4 : decode cL_broken 4 = .ok (.invokevirtual 49, 3) := by decide +kernel
theorem dL_broken_7 : decode cL_broken 7 = .ok (.i2l, 1) := by decide +kernel
theorem dL_broken_8 : decode cL_broken 8 = .ok (.lastore, 1) := by decide +kernel
theorem dL_broken_9 : decode cL_broken 9 = .ok (.goto 6, 3) := by decide +kernel
theorem dL_broken_12 : decode cL_broken 12 = .ok (.astore_n 3, 1) := by decide +kernel
theorem dL_broken_13 : decode cL_broken 13 = .ok (.iconst 1, 1) := by decide +kernel
theorem dL_broken_14 : decode cL_broken 14 = .ok (.ireturn, 1) := by decide +kernel
theorem dL_broken_15 : decode cL_broken 15 = .ok (.iconst 0, 1) := by decide +kernel
theorem dL_broken_16 : decode cL_broken 16 = .ok (.ireturn, 1) := by decide +kernel
set_option maxRecDepth 20000 in
theorem ggL_counted_X9_counted : GoodIn wsL_counted wsX9_counted := goodIn_ca (goodIn_ca (goodIn_r _ [7, 8, 9, 10, 11, 12, 13, 14, 15, 16, 17, 18, 6, 19, 20, 21, 22, 23, 24, 25, 26, 27, 28, 29, 30, 31, 32, 33, 34, 35, 36, 37, 38, 39, 40, 41, 42, 43, 44, 45, 46, 47, 48, 49, 50, 51, 52, 53, 54, 55, 56, 57, 58, 59, 60, 61, 62, 63, 64, 65] (by decide +kernel) (by decide +kernel)) (goodIn_sub (fun _ h => List.mem_cons_of_mem _ (List.mem_append_left _ (List.mem_append_right _ h))) (by decide +kernel))) (goodIn_sub (fun _ h => List.mem_cons_of_mem _ (List.mem_append_right _ h)) (by decide +kernel))
set_option maxRecDepth 20000 in
theorem gL_counted_X9_counted : GoodIn wsL_counted (wsV RL 52 RX9 yX9_counted wsX9_counted) := goodIn_app (goodIn_of _ (by decide +kernel)) ggL_counted_X9_counted
theorem dL_counted_0 : decode cL_counted 0 = .ok (.aload_n 3, 1) := by decide +kernel
theorem dL_counted_1 : decode cL_counted 1 = .ok (.iconst 0, 1) := by decide +kernel
theorem dL_counted_2 : decode cL_counted 2 = .ok (.aload_n 0, 1) := by decide +kernel
theorem dL_counted_3 : decode cL_counted 3 = .ok (.iload_n 1, 1) := by decide +kernel
theorem dL_counted_4 : decode cL_counted 4 = .ok (.iload_n 2, 1) := by decide +kernel
theorem dL_counted_5 : decode cL_counted 5 = .ok (.invokevirtual 52, 3) := by decide +kernel
theorem dL_counted_8 : decode cL_counted 8 = .ok (.i2l, 1) := by decide +kernel
theorem dL_counted_9 : decode cL_counted 9 = .ok (.lastore, 1) := by decide +kernel
theorem dL_counted_10 : decode cL_counted 10 = .ok (.goto 11, 3) := by decide +kernel
theorem dL_counted_13 : decode cL_counted 13 = .ok (.astore 4, 2) := by decide +kernel
theorem dL_counted_15 : decode cL_counted 15 = .ok (.iconst 1, 1) := by decide +kernel
theorem dL_counted_16 : decode cL_counted 16 = .ok (.ireturn, 1) := by decide +kernel
theorem dL_counted_17 : decode cL_counted 17 = .ok (.astore 4, 2) := by decide +kernel
theorem dL_counted_19 : decode cL_counted 19 = .ok (.iconst 2, 1) := by decide +kernel
theorem dL_counted_20 : decode cL_counted 20 = .ok (.ireturn, 1) := by decide +kernel
theorem dL_counted_21 : decode cL_counted 21 = .ok (.iconst 0, 1) := by decide +kernel
theorem dL_counted_22 : decode cL_counted 22 = .ok (.ireturn, 1) := by decide +kernel
set_option maxRecDepth 20000 in
theorem ggL_glass_X9_glass : GoodIn wsL_glass wsX9_glass := goodIn_ca (goodIn_r _ [6, 7, 8, 9, 10, 11, 5, 12, 13, 14, 15, 16, 17, 18, 19, 20, 21, 22, 23, 24, 25, 26, 27, 28, 29, 30, 31, 32, 33, 34, 35, 36, 37, 38, 39, 40, 41, 42, 43, 44, 45, 46, 47, 48, 49, 50, 51, 52, 53, 54, 55, 56, 57, 58, 59, 60, 61, 62, 63, 64, 65, 66, 67, 68, 69, 70, 71, 72, 73, 74, 75, 76, 77, 78, 79, 80, 81, 82, 83, 84, 85, 86, 87, 88, 89, 90, 91, 92, 93, 94, 95, 96, 97, 98, 99, 100, 101, 102, 103, 104, 105, 106, 107, 108, 109, 110, 111] (by decide +kernel) (by decide +kernel)) (goodIn_sub (fun _ h => List.mem_cons_of_mem _ (List.mem_append_right _ h)) (by decide +kernel))
set_option maxRecDepth 20000 in
theorem gL_glass_X9_glass : GoodIn wsL_glass (wsV RL 55 RX9 yX9_glass wsX9_glass) := goodIn_app (goodIn_of _ (by decide +kernel)) ggL_glass_X9_glass
theorem dL_glass_0 : decode cL_glass 0 = .ok (.aload_n 2, 1) := by decide +kernel
theorem dL_glass_1 : decode cL_glass 1 = .ok (.iconst 0, 1) := by decide +kernel
theorem dL_glass_2 : decode cL_glass 2 = .ok (.aload_n 0, 1) := by decide +kernel
theorem dL_glass_3 : decode cL_glass 3 = .ok (.iload_n 1, 1) := by decide +kernel
theorem dL_glass_4 : decode cL_glass 4 = .ok (.invokevirtual 55, 3) := by decide +kernel
theorem dL_glass_7 : decode cL_glass 7 = .ok (.i2l, 1) := by decide +kernel
theorem dL_glass_8 : decode cL_glass 8 = .ok (.lastore, 1) := by decide +kernel
theorem dL_glass_9 : decode cL_glass 9 = .ok (.goto 6, 3) := by decide +kernel
theorem dL_glass_12 : decode cL_glass 12 = .ok (.astore_n 3, 1) := by decide +kernel
theorem dL_glass_13 : decode cL_glass 13 = .ok (.iconst 1, 1) := by decide +kernel
theorem dL_glass_14 : decode cL_glass 14 = .ok (.ireturn, 1) := by decide +kernel
theorem dL_glass_15 : decode cL_glass 15 = .ok (.iconst 0, 1) := by decide +kernel
theorem dL_glass_16 : decode cL_glass 16 = .ok (.ireturn, 1) := by decide +kernel
set_option maxRecDepth 20000 in
theorem ggL_wait_X9_wait : GoodIn wsL_wait wsX9_wait := goodIn_ca (goodIn_ca (goodIn_r _ [7, 8, 9, 10, 11, 12, 13, 14, 15, 16, 17, 18, 19, 20, 21, 22, 6, 23, 24, 25, 26, 27, 28, 29, 30, 31, 32, 33, 34, 35, 36, 37, 38, 39, 40, 41, 42, 43, 44, 45, 46, 47, 48, 49, 50, 51, 52, 53, 54, 55, 56, 57, 58, 59, 60, 61, 62, 63, 64, 65, 66, 67, 68, 69, 70, 71, 72, 73] (by decide +kernel) (by decide +kernel)) (goodIn_sub (fun _ h => List.mem_cons_of_mem _ (List.mem_append_left _ (List.mem_append_right _ h))) (by decide +kernel))) (goodIn_sub (fun _ h => List.mem_cons_of_mem _ (List.mem_append_right _ h)) (by decide +kernel))
set_option maxRecDepth 20000 in
theorem gL_wait_X9_wait : GoodIn wsL_wait (wsV RL 58 RX9 yX9_wait wsX9_wait) := goodIn_app (goodIn_of _ (by decide +kernel)) ggL_wait_X9_wait
theorem dL_wait_0 : decode cL_wait 0 = .ok (.aload_n 2, 1) := by decide +kernel
theorem dL_wait_1 : decode cL_wait 1 = .ok (.iconst 0, 1) := by decide +kernel
theorem dL_wait_2 : decode cL_wait 2 = .ok (.aload_n 0, 1) := by decide +kernel
theorem dL_wait_3 : decode cL_wait 3 = .ok (.iload_n 1, 1) := by decide +kernel
theorem dL_wait_4 : decode cL_wait 4 = .ok (.invokevirtual 58, 3) := by decide +kernel
theorem dL_wait_7 : decode cL_wait 7 = .ok (.i2l, 1) := by decide +kernel
theorem dL_wait_8 : decode cL_wait 8 = .ok (.lastore, 1) := by decide +kernel
theorem dL_wait_9 : decode cL_wait 9 = .ok (.goto 9, 3) := by decide +kernel
theorem dL_wait_12 : decode cL_wait 12 = .ok (.astore_n 3, 1) := by decide +kernel
theorem dL_wait_13 : decode cL_wait 13 = .ok (.iconst 1, 1) := by decide +kernel
theorem dL_wait_14 : decode cL_wait 14 = .ok (.ireturn, 1) := by decide +kernel
theorem dL_wait_15 : decode cL_wait 15 = .ok (.astore_n 3, 1) := by decide +kernel
theorem dL_wait_16 : decode cL_wait 16 = .ok (.iconst 2, 1) := by decide +kernel
theorem dL_wait_17 : decode cL_wait 17 = .ok (.ireturn, 1) := by decide +kernel
theorem dL_wait_18 : decode cL_wait 18 = .ok (.iconst 0, 1) := by decide +kernel
theorem dL_wait_19 : decode cL_wait 19 = .ok (.ireturn, 1) := by decide +kernel
set_option maxRecDepth 20000 in
theorem ggL_dish_X9_dish : GoodIn wsL_dish wsX9_dish := goodIn_ca (goodIn_ca (goodIn_r _ [7, 8, 9, 10, 11, 12, 13, 14, 15, 16, 17, 18, 19, 20, 6, 21, 22, 23, 24, 25, 26, 27, 28, 29, 30, 31, 32, 33, 34, 35, 36, 37, 38, 39, 40, 41, 42, 43, 44, 45, 46, 47, 48, 49, 50, 51, 52, 53, 54, 55, 56, 57, 58, 59, 60, 61, 62, 63, 64, 65, 66, 67, 68, 69, 70, 71, 72, 73, 74, 75, 76, 77, 78, 79, 80, 81, 82, 83, 84, 85, 86, 87, 88, 89, 90, 91, 92, 93, 94, 95, 96, 97, 98, 99, 100, 101, 102, 103, 104, 105, 106, 107, 108, 109, 110, 111, 112, 113, 114, 115, 116, 117, 118, 119, 120, 121, 122, 123, 124, 125, 126, 127, 128, 129, 130, 131, 132, 133, 134, 135, 136, 137, 138, 139, 140, 141, 142, 143, 144, 145, 146, 147, 148, 149, 150, 151, 152, 153, 154, 155, 156, 157, 158, 159, 160] (by decide +kernel) (by decide +kernel)) (goodIn_sub (fun _ h => List.mem_cons_of_mem _ (List.mem_append_left _ (List.mem_append_right _ h))) (by decide +kernel))) (goodIn_sub (fun _ h => List.mem_cons_of_mem _ (List.mem_append_right _ h)) (by decide +kernel))
set_option maxRecDepth 20000 in
theorem gL_dish_X9_dish : GoodIn wsL_dish (wsV RL 63 RX9 yX9_dish wsX9_dish) := goodIn_app (goodIn_of _ (by decide +kernel)) ggL_dish_X9_dish
theorem dL_dish_0 : decode cL_dish 0 = .ok (.aload_n 2, 1) := by decide +kernel
theorem dL_dish_1 : decode cL_dish 1 = .ok (.iconst 0, 1) := by decide +kernel
theorem dL_dish_2 : decode cL_dish 2 = .ok (.aload_n 0, 1) := by decide +kernel
theorem dL_dish_3 : decode cL_dish 3 = .ok (.iload_n 1, 1) := by decide +kernel
theorem dL_dish_4 : decode cL_dish 4 = .ok (.invokevirtual 63, 3) := by decide +kernel
theorem dL_dish_7 : decode cL_dish 7 = .ok (.i2l, 1) := by decide +kernel
theorem dL_dish_8 : decode cL_dish 8 = .ok (.lastore, 1) := by decide +kernel
theorem dL_dish_9 : decode cL_dish 9 = .ok (.goto 9, 3) := by decide +kernel
theorem dL_dish_12 : decode cL_dish 12 = .ok (.astore_n 3, 1) := by decide +kernel
theorem dL_dish_13 : decode cL_dish 13 = .ok (.iconst 1, 1) := by decide +kernel
theorem dL_dish_14 : decode cL_dish 14 = .ok (.ireturn, 1) := by decide +kernel
theorem dL_dish_15 : decode cL_dish 15 = .ok (.astore_n 3, 1) := by decide +kernel
theorem dL_dish_16 : decode cL_dish 16 = .ok (.iconst 2, 1) := by decide +kernel
theorem dL_dish_17 : decode cL_dish 17 = .ok (.ireturn, 1) := by decide +kernel
theorem dL_dish_18 : decode cL_dish 18 = .ok (.iconst 0, 1) := by decide +kernel
theorem dL_dish_19 : decode cL_dish 19 = .ok (.ireturn, 1) := by decide +kernel
set_option maxRecDepth 20000 in
theorem ggL_score_X9_score : GoodIn wsL_score wsX9_score := goodIn_ca (goodIn_ca (goodIn_r _ [7, 8, 9, 10, 6, 11, 12, 13, 14, 15, 16, 17, 18, 19, 20, 21, 22, 23, 24, 25, 26, 27, 28, 29, 30, 31, 32, 33, 34, 35, 36, 37, 38, 39, 40, 41, 42, 43, 44, 45, 46, 47, 48, 49, 50, 51, 52, 53, 54, 55, 56, 57, 58, 59, 60, 61, 62, 63, 64, 65, 66, 67, 68, 69, 70, 71, 72, 73, 74, 75, 76, 77, 78, 79, 80, 81, 82, 83, 84, 85, 86, 87, 88, 89, 90, 91, 92, 93, 94, 95, 96, 97, 98, 99, 100, 101, 102, 103, 104, 105, 106, 107] (by decide +kernel) (by decide +kernel)) (goodIn_sub (fun _ h => List.mem_cons_of_mem _ (List.mem_append_left _ (List.mem_append_right _ h))) (by decide +kernel))) (goodIn_sub (fun _ h => List.mem_cons_of_mem _ (List.mem_append_right _ h)) (by decide +kernel))
set_option maxRecDepth 20000 in
theorem gL_score_X9_score : GoodIn wsL_score (wsV RL 66 RX9 yX9_score wsX9_score) := goodIn_app (goodIn_of _ (by decide +kernel)) ggL_score_X9_score
theorem dL_score_0 : decode cL_score 0 = .ok (.aload_n 3, 1) := by decide +kernel
theorem dL_score_1 : decode cL_score 1 = .ok (.iconst 0, 1) := by decide +kernel
theorem dL_score_2 : decode cL_score 2 = .ok (.aload_n 0, 1) := by decide +kernel
theorem dL_score_3 : decode cL_score 3 = .ok (.iload_n 1, 1) := by decide +kernel
theorem dL_score_4 : decode cL_score 4 = .ok (.iload_n 2, 1) := by decide +kernel
theorem dL_score_5 : decode cL_score 5 = .ok (.invokevirtual 66, 3) := by decide +kernel
theorem dL_score_8 : decode cL_score 8 = .ok (.i2l, 1) := by decide +kernel
theorem dL_score_9 : decode cL_score 9 = .ok (.lastore, 1) := by decide +kernel
theorem dL_score_10 : decode cL_score 10 = .ok (.goto 11, 3) := by decide +kernel
theorem dL_score_13 : decode cL_score 13 = .ok (.astore 4, 2) := by decide +kernel
theorem dL_score_15 : decode cL_score 15 = .ok (.iconst 1, 1) := by decide +kernel
theorem dL_score_16 : decode cL_score 16 = .ok (.ireturn, 1) := by decide +kernel
theorem dL_score_17 : decode cL_score 17 = .ok (.astore 4, 2) := by decide +kernel
theorem dL_score_19 : decode cL_score 19 = .ok (.iconst 2, 1) := by decide +kernel
theorem dL_score_20 : decode cL_score 20 = .ok (.ireturn, 1) := by decide +kernel
theorem dL_score_21 : decode cL_score 21 = .ok (.iconst 0, 1) := by decide +kernel
theorem dL_score_22 : decode cL_score 22 = .ok (.ireturn, 1) := by decide +kernel
set_option maxRecDepth 20000 in
theorem ggL_match_X9_match : GoodIn wsL_match wsX9_match := goodIn_ca (goodIn_r _ [6, 7, 8, 9, 10, 11, 12, 13, 14, 15, 5, 16, 17, 18, 19, 20, 21, 22, 23, 24, 25, 26, 27, 28, 29, 30, 31, 32, 33, 34, 35, 36, 37, 38, 39, 40, 41, 42, 43, 44, 45, 46, 47, 48, 49, 50, 51, 52, 53, 54, 55, 56, 57, 58, 59, 60, 61, 62, 63, 64, 65, 66, 67, 68, 69, 70, 71, 72, 73, 74, 75, 76, 77, 78, 79, 80, 81, 82, 83, 84, 85, 86, 87, 88, 89, 90, 91, 92, 93, 94, 95, 96, 97, 98, 99, 100, 101, 102, 103, 104, 105, 106, 107, 108, 109, 110, 111, 112, 113, 114, 115, 116, 117, 118, 119, 120, 121, 122, 123, 124, 125] (by decide +kernel) (by decide +kernel)) (goodIn_sub (fun _ h => List.mem_cons_of_mem _ (List.mem_append_right _ h)) (by decide +kernel))
set_option maxRecDepth 20000 in
theorem gL_match_X9_match : GoodIn wsL_match (wsV RL 69 RX9 yX9_match wsX9_match) := goodIn_app (goodIn_of _ (by decide +kernel)) ggL_match_X9_match
theorem dL_match_0 : decode cL_match 0 = .ok (.aload_n 3, 1) := by decide +kernel
theorem dL_match_1 : decode cL_match 1 = .ok (.iconst 0, 1) := by decide +kernel
theorem dL_match_2 : decode cL_match 2 = .ok (.aload_n 0, 1) := by decide +kernel
theorem dL_match_3 : decode cL_match 3 = .ok (.iload_n 1, 1) := by decide +kernel
theorem dL_match_4 : decode cL_match 4 = .ok (.iload_n 2, 1) := by decide +kernel
theorem dL_match_5 : decode cL_match 5 = .ok (.invokevirtual 69, 3) := by decide +kernel
theorem dL_match_8 : decode cL_match 8 = .ok (.i2l, 1) := by decide +kernel
theorem dL_match_9 : decode cL_match 9 = .ok (.lastore, 1) := by decide +kernel
theorem dL_match_10 : decode cL_match 10 = .ok (.goto 7, 3) := by decide +kernel
theorem dL_match_13 : decode cL_match 13 = .ok (.astore 4, 2) := by decide +kernel
theorem dL_match_15 : decode cL_match 15 = .ok (.iconst 1, 1) := by decide +kernel
theorem dL_match_16 : decode cL_match 16 = .ok (.ireturn, 1) := by decide +kernel
theorem dL_match_17 : decode cL_match 17 = .ok (.iconst 0, 1) := by decide +kernel
theorem dL_match_18 : decode cL_match 18 = .ok (.ireturn, 1) := by decide +kernel
set_option maxRecDepth 20000 in
theorem ggL_sheet_X9_sheet : GoodIn wsL_sheet wsX9_sheet := goodIn_ca (goodIn_r _ [6, 7, 8, 9, 10, 11, 12, 13, 14, 15, 16, 5, 17, 18, 19, 20, 21, 22, 23, 24, 25, 26, 27, 28, 29, 30, 31, 32, 33, 34, 35, 36, 37, 38, 39, 40, 41, 42, 43, 44, 45, 46, 47, 48, 49, 50, 51, 52] (by decide +kernel) (by decide +kernel)) (goodIn_sub (fun _ h => List.mem_cons_of_mem _ (List.mem_append_right _ h)) (by decide +kernel))
set_option maxRecDepth 20000 in
theorem gL_sheet_X9_sheet : GoodIn wsL_sheet (wsV RL 72 RX9 yX9_sheet wsX9_sheet) := goodIn_app (goodIn_of _ (by decide +kernel)) ggL_sheet_X9_sheet
theorem dL_sheet_0 : decode cL_sheet 0 = .ok (.aload_n 2, 1) := by decide +kernel
theorem dL_sheet_1 : decode cL_sheet 1 = .ok (.iconst 0, 1) := by decide +kernel
theorem dL_sheet_2 : decode cL_sheet 2 = .ok (.aload_n 0, 1) := by decide +kernel
theorem dL_sheet_3 : decode cL_sheet 3 = .ok (.iload_n 1, 1) := by decide +kernel
theorem dL_sheet_4 : decode cL_sheet 4 = .ok (.invokevirtual 72, 3) := by decide +kernel
theorem dL_sheet_7 : decode cL_sheet 7 = .ok (.i2l, 1) := by decide +kernel
theorem dL_sheet_8 : decode cL_sheet 8 = .ok (.lastore, 1) := by decide +kernel
theorem dL_sheet_9 : decode cL_sheet 9 = .ok (.goto 6, 3) := by decide +kernel
theorem dL_sheet_12 : decode cL_sheet 12 = .ok (.astore_n 3, 1) := by decide +kernel
theorem dL_sheet_13 : decode cL_sheet 13 = .ok (.iconst 1, 1) := by decide +kernel
theorem dL_sheet_14 : decode cL_sheet 14 = .ok (.ireturn, 1) := by decide +kernel
theorem dL_sheet_15 : decode cL_sheet 15 = .ok (.iconst 0, 1) := by decide +kernel
theorem dL_sheet_16 : decode cL_sheet 16 = .ok (.ireturn, 1) := by decide +kernel
set_option maxRecDepth 20000 in
theorem ggL_row_X9_row : GoodIn wsL_row wsX9_row := goodIn_ca (goodIn_r _ [6, 7, 8, 9, 10, 5, 11, 12, 13, 14, 15, 16, 17, 18, 19, 20, 21, 22, 23, 24, 25, 26, 27, 28, 29, 30, 31, 32, 33, 34, 35, 36, 37, 38, 39, 40, 41, 42, 43, 44, 45, 46, 47, 48] (by decide +kernel) (by decide +kernel)) (goodIn_sub (fun _ h => List.mem_cons_of_mem _ (List.mem_append_right _ h)) (by decide +kernel))
set_option maxRecDepth 20000 in
theorem gL_row_X9_row : GoodIn wsL_row (wsV RL 75 RX9 yX9_row wsX9_row) := goodIn_app (goodIn_of _ (by decide +kernel)) ggL_row_X9_row
theorem dL_row_0 : decode cL_row 0 = .ok (.aload 4, 2) := by decide +kernel
theorem dL_row_2 : decode cL_row 2 = .ok (.iconst 0, 1) := by decide +kernel
theorem dL_row_3 : decode cL_row 3 = .ok (.aload_n 0, 1) := by decide +kernel
theorem dL_row_4 : decode cL_row 4 = .ok (.iload_n 1, 1) := by decide +kernel
theorem dL_row_5 : decode cL_row 5 = .ok (.iload_n 2, 1) := by decide +kernel
theorem dL_row_6 : decode cL_row 6 = .ok (.iload_n 3, 1) := by decide +kernel
theorem dL_row_7 : decode cL_row 7 = .ok (.invokevirtual 75, 3) := by decide +kernel
theorem dL_row_10 : decode cL_row 10 = .ok (.i2l, 1) := by decide +kernel
theorem dL_row_11 : decode cL_row 11 = .ok (.lastore, 1) := by decide +kernel
theorem dL_row_12 : decode cL_row 12 = .ok (.goto 7, 3) := by decide +kernel
theorem dL_row_15 : decode cL_row 15 = .ok (.astore 5, 2) := by decide +kernel
theorem dL_row_17 : decode cL_row 17 = .ok (.iconst 1, 1) := by decide +kernel
theorem dL_row_18 : decode cL_row 18 = .ok (.ireturn, 1) := by decide +kernel
theorem dL_row_19 : decode cL_row 19 = .ok (.iconst 0, 1) := by decide +kernel
theorem dL_row_20 : decode cL_row 20 = .ok (.ireturn, 1) := by decide +kernel
set_option maxRecDepth 20000 in
theorem ggL_set_X9_set : GoodIn wsL_set wsX9_set := goodIn_ca (goodIn_r _ [6, 7, 8, 9, 10, 11, 5, 12, 13, 14, 15, 16, 17, 18, 19, 20, 21, 22, 23, 24, 25, 26, 27, 28, 29, 30, 31, 32, 33, 34, 35, 36, 37, 38, 39, 40, 41] (by decide +kernel) (by decide +kernel)) (goodIn_sub (fun _ h => List.mem_cons_of_mem _ (List.mem_append_right _ h)) (by decide +kernel))
set_option maxRecDepth 20000 in
theorem gL_set_X9_set : GoodIn wsL_set (wsV RL 78 RX9 yX9_set wsX9_set) := goodIn_app (goodIn_of _ (by decide +kernel)) ggL_set_X9_set
theorem dL_set_0 : decode cL_set 0 = .ok (.aload 6, 2) := by decide +kernel
theorem dL_set_2 : decode cL_set 2 = .ok (.iconst 0, 1) := by decide +kernel
theorem dL_set_3 : decode cL_set 3 = .ok (.aload_n 0, 1) := by decide +kernel
theorem dL_set_4 : decode cL_set 4 = .ok (.iload_n 1, 1) := by decide +kernel
theorem dL_set_5 : decode cL_set 5 = .ok (.iload_n 2, 1) := by decide +kernel
theorem dL_set_6 : decode cL_set 6 = .ok (.iload_n 3, 1) := by decide +kernel
theorem dL_set_7 : decode cL_set 7 = .ok (.lload 4, 2) := by decide +kernel
theorem dL_set_9 : decode cL_set 9 = .ok (.invokevirtual 78, 3) := by decide +kernel
theorem dL_set_12 : decode cL_set 12 = .ok (.i2l, 1) := by decide +kernel
theorem dL_set_13 : decode cL_set 13 = .ok (.lastore, 1) := by decide +kernel
theorem dL_set_14 : decode cL_set 14 = .ok (.goto 7, 3) := by decide +kernel
theorem dL_set_17 : decode cL_set 17 = .ok (.astore 7, 2) := by decide +kernel
theorem dL_set_19 : decode cL_set 19 = .ok (.iconst 1, 1) := by decide +kernel
theorem dL_set_20 : decode cL_set 20 = .ok (.ireturn, 1) := by decide +kernel
theorem dL_set_21 : decode cL_set 21 = .ok (.iconst 0, 1) := by decide +kernel
theorem dL_set_22 : decode cL_set 22 = .ok (.ireturn, 1) := by decide +kernel
set_option maxRecDepth 20000 in
theorem ggL_deliver_X9_deliver : GoodIn wsL_deliver wsX9_deliver := goodIn_ca (goodIn_r _ [6, 7, 8, 9, 10, 11, 5, 12, 13, 14, 15, 16, 17, 18, 19, 20, 21, 22, 23, 24, 25, 26, 27, 28, 29, 30, 31, 32, 33, 34, 35, 36, 37, 38, 39, 40, 41, 42, 43, 44, 45, 46, 47, 48, 49, 50, 51, 52, 53, 54, 55, 56, 57, 58, 59, 60, 61, 62, 63, 64, 65, 66, 67, 68, 69, 70, 71, 72, 73, 74, 75, 76, 77, 78, 79, 80, 81, 82, 83, 84, 85, 86, 87, 88, 89, 90, 91, 92, 93, 94, 95, 96, 97, 98, 99, 100, 101, 102, 103, 104, 105, 106, 107, 108, 109, 110, 111, 112, 113, 114, 115, 116, 117] (by decide +kernel) (by decide +kernel)) (goodIn_sub (fun _ h => List.mem_cons_of_mem _ (List.mem_append_right _ h)) (by decide +kernel))
set_option maxRecDepth 20000 in
theorem gL_deliver_X9_deliver : GoodIn wsL_deliver (wsV RL 82 RX9 yX9_deliver wsX9_deliver) := goodIn_app (goodIn_of _ (by decide +kernel)) ggL_deliver_X9_deliver
theorem dL_deliver_0 : decode cL_deliver 0 = .ok (.aload_n 3, 1) := by decide +kernel
theorem dL_deliver_1 : decode cL_deliver 1 = .ok (.iconst 0, 1) := by decide +kernel
theorem dL_deliver_2 : decode cL_deliver 2 = .ok (.aload_n 0, 1) := by decide +kernel
theorem dL_deliver_3 : decode cL_deliver 3 = .ok (.iload_n 1, 1) := by decide +kernel
theorem dL_deliver_4 : decode cL_deliver 4 = .ok (.iload_n 2, 1) := by decide +kernel
theorem dL_deliver_5 : decode cL_deliver 5 = .ok (.invokevirtual 82, 3) := by decide +kernel
theorem dL_deliver_8 : decode cL_deliver 8 = .ok (.i2l, 1) := by decide +kernel
theorem dL_deliver_9 : decode cL_deliver 9 = .ok (.lastore, 1) := by decide +kernel
theorem dL_deliver_10 : decode cL_deliver 10 = .ok (.goto 7, 3) := by decide +kernel
theorem dL_deliver_13 : decode cL_deliver 13 = .ok (.astore 4, 2) := by decide +kernel
theorem dL_deliver_15 : decode cL_deliver 15 = .ok (.iconst 1, 1) := by decide +kernel
theorem dL_deliver_16 : decode cL_deliver 16 = .ok (.ireturn, 1) := by decide +kernel
theorem dL_deliver_17 : decode cL_deliver 17 = .ok (.iconst 0, 1) := by decide +kernel
theorem dL_deliver_18 : decode cL_deliver 18 = .ok (.ireturn, 1) := by decide +kernel
set_option maxRecDepth 20000 in
theorem ggL_plan_X9_plan : GoodIn wsL_plan wsX9_plan := goodIn_ca (goodIn_ca (goodIn_r _ [6, 7, 8, 9, 10, 11, 12, 13, 14, 15, 16, 5, 17, 18, 19, 20, 21, 22, 23, 24, 25, 26, 27, 28, 29, 30, 31, 32, 33, 34, 35, 36, 37, 38, 39, 40, 41, 42, 43, 44, 45, 46, 47, 48, 49, 50, 51, 52, 53, 54, 55, 56, 57, 58, 59, 60, 61, 62, 63, 64, 65, 66, 67, 68, 69, 70, 71, 72, 73, 74, 75, 76, 77, 78, 79, 80, 81, 82, 83, 84, 85, 86, 87, 88, 89, 90, 91, 92, 93, 94, 95, 96, 97, 98, 99, 100, 101, 102, 103, 104, 105, 106, 107, 108, 109, 110, 111, 112, 113, 114, 115, 116, 117, 118, 119, 120, 121, 122, 123, 124, 125, 126, 127, 128, 129, 130, 131, 132, 133, 134, 135, 136, 137, 138, 139, 140, 141, 142, 143, 144, 145, 146, 147, 148, 149, 150, 151, 152] (by decide +kernel) (by decide +kernel)) (goodIn_sub (fun _ h => List.mem_cons_of_mem _ (List.mem_append_left _ (List.mem_append_right _ h))) (by decide +kernel))) (goodIn_sub (fun _ h => List.mem_cons_of_mem _ (List.mem_append_right _ h)) (by decide +kernel))
set_option maxRecDepth 20000 in
theorem gL_plan_X9_plan : GoodIn wsL_plan (wsV RL 85 RX9 yX9_plan wsX9_plan) := goodIn_app (goodIn_of _ (by decide +kernel)) ggL_plan_X9_plan
theorem dL_plan_0 : decode cL_plan 0 = .ok (.aload_n 3, 1) := by decide +kernel
theorem dL_plan_1 : decode cL_plan 1 = .ok (.iconst 0, 1) := by decide +kernel
theorem dL_plan_2 : decode cL_plan 2 = .ok (.aload_n 0, 1) := by decide +kernel
theorem dL_plan_3 : decode cL_plan 3 = .ok (.iload_n 1, 1) := by decide +kernel
theorem dL_plan_4 : decode cL_plan 4 = .ok (.iload_n 2, 1) := by decide +kernel
theorem dL_plan_5 : decode cL_plan 5 = .ok (.invokevirtual 85, 3) := by decide +kernel
theorem dL_plan_8 : decode cL_plan 8 = .ok (.i2l, 1) := by decide +kernel
theorem dL_plan_9 : decode cL_plan 9 = .ok (.lastore, 1) := by decide +kernel
theorem dL_plan_10 : decode cL_plan 10 = .ok (.goto 7, 3) := by decide +kernel
theorem dL_plan_13 : decode cL_plan 13 = .ok (.astore 4, 2) := by decide +kernel
theorem dL_plan_15 : decode cL_plan 15 = .ok (.iconst 1, 1) := by decide +kernel
theorem dL_plan_16 : decode cL_plan 16 = .ok (.ireturn, 1) := by decide +kernel
theorem dL_plan_17 : decode cL_plan 17 = .ok (.iconst 0, 1) := by decide +kernel
theorem dL_plan_18 : decode cL_plan 18 = .ok (.ireturn, 1) := by decide +kernel
set_option maxRecDepth 20000 in
theorem ggL_law_X9_init : GoodIn wsL_law wsX9_init := goodIn_r _ [10, 11, 12, 13, 14, 15, 16, 17, 18, 19, 20, 21, 22, 23, 24, 25, 26, 27, 28, 29, 30, 31, 32, 33, 34, 35, 36, 37, 38, 39, 40, 41, 42, 43, 44, 45, 46, 47, 48, 49, 50, 51, 52, 53, 54, 55, 56, 57, 58, 59, 60, 61, 62, 63, 64, 65, 66, 67, 68, 69, 70, 71, 72, 73, 74, 75, 76, 77, 78, 79, 80, 81, 82, 83, 84, 85, 86, 87, 88, 89, 953, 954, 955, 956, 957, 958, 959, 960, 961, 962, 963, 964, 965, 966, 967, 968, 1018, 1019, 1020, 1021, 1022, 1023, 1024, 1025, 1026, 1027, 1028, 1029, 1030, 1031, 1032, 1033, 1034, 1035, 1036, 1037, 1038, 1039, 1040, 1041] (by decide +kernel) (by decide +kernel)
set_option maxRecDepth 20000 in
theorem gL_law_X9_init : GoodIn wsL_law (wsX9_init) := ggL_law_X9_init
set_option maxRecDepth 20000 in
theorem ggL_law_X10_init : GoodIn wsL_law wsX10_init := goodIn_r _ [92, 93, 12, 13, 38, 94, 95, 96, 97, 98, 99, 100, 101, 102, 103, 104, 105, 106, 107, 108, 109, 110, 111, 112, 113, 114, 115, 116, 6, 117, 118, 119, 120, 121, 122, 123, 969, 970, 971, 972, 973, 974, 975, 976, 977, 978, 979, 980, 981, 982, 983, 984, 985, 986, 987, 988, 989, 990, 991, 992, 993, 994, 995, 996, 997, 998, 999, 1000, 1001, 1002, 1003, 1004, 1005, 1006, 1007, 1008, 1009, 1010, 1011, 1012, 1013, 1014, 1015, 1016, 1017] (by decide +kernel) (by decide +kernel)
set_option maxRecDepth 20000 in
theorem gL_law_X10_init : GoodIn wsL_law (wsX10_init) := ggL_law_X10_init
set_option maxRecDepth 20000 in
theorem ggL_law_L_kind : GoodIn wsL_law wsL_kind := goodIn_ca (goodIn_r _ [127, 128, 129, 130, 131, 2, 132, 133, 134, 135, 136, 137, 43, 15, 14, 138, 139, 140, 141, 142, 143, 144, 145, 146, 12, 13, 147, 148, 149, 150, 151, 953, 954, 955, 956, 957, 958, 959, 960, 961, 962, 963, 964, 965, 966, 967, 968, 1042, 1043, 1044, 1045, 1046] (by decide +kernel) (by decide +kernel)) (goodIn_sub (fun _ h => List.mem_append_left _ (List.mem_append_left _ (List.mem_append_left _ (List.mem_append_right _ h)))) (by decide +kernel))
set_option maxRecDepth 20000 in
theorem gL_law_L_kind : GoodIn wsL_law (va_wsS RL 92 yL_kind wsL_kind) := goodIn_app (goodIn_of _ (by decide +kernel)) ggL_law_L_kind
set_option maxRecDepth 20000 in
theorem ggL_law_X10_kind : GoodIn wsL_law wsX10_kind := goodIn_r _ [155, 156, 157, 94, 95, 96, 97, 98, 158, 159, 5, 160, 161, 162, 163, 164, 969, 970, 971, 972, 973, 974, 975, 976, 977, 978, 979, 980, 981, 982, 983, 984, 985, 986, 987, 988, 989, 990, 991, 992, 993, 994, 995, 996, 997, 998, 999, 1000, 1001, 1002, 1003, 1004, 1005, 1006, 1007, 1008, 1009, 1010, 1011, 1012, 1013, 1014, 1015, 1016, 1017] (by decide +kernel) (by decide +kernel)
set_option maxRecDepth 20000 in
theorem gL_law_X10_kind : GoodIn wsL_law (wsV RL 97 RX10 yX10_kind wsX10_kind) := goodIn_app (goodIn_of _ (by decide +kernel)) ggL_law_X10_kind
set_option maxRecDepth 20000 in
theorem ggL_law_X10_thrown : GoodIn wsL_law wsX10_thrown := goodIn_r _ [168, 156, 969, 970, 971, 972, 973, 974, 975, 976, 977, 978, 979, 980, 981, 982, 983, 984, 985, 986, 987, 988, 989, 990, 991, 992, 993, 994, 995, 996, 997, 998, 999, 1000, 1001, 1002, 1003, 1004, 1005, 1006, 1007, 1008, 1009, 1010, 1011, 1012, 1013, 1014, 1015, 1016, 1017] (by decide +kernel) (by decide +kernel)
set_option maxRecDepth 20000 in
theorem gL_law_X10_thrown : GoodIn wsL_law (wsV RL 98 RX10 yX10_thrown wsX10_thrown) := goodIn_app (goodIn_of _ (by decide +kernel)) ggL_law_X10_thrown
set_option maxRecDepth 20000 in
theorem ggL_law_L_lot : GoodIn wsL_law wsL_lot := goodIn_ca (goodIn_ca (goodIn_r _ [171, 172, 128, 173, 174, 175, 2, 176, 177, 178, 133, 134, 43, 44, 179, 180, 181, 182, 183, 140, 141, 142, 184, 185, 186, 187, 188, 189, 190, 191, 17, 16, 192, 193, 15, 194, 195, 196, 197, 12, 13, 198, 199, 200, 201, 202, 203, 204, 205, 206, 207, 953, 954, 955, 956, 957, 958, 959, 960, 961, 962, 963, 964, 965, 966, 967, 968, 1047, 1048, 1049, 1050, 1051, 1052, 1053, 1054, 1042, 1043, 1044, 1045, 1046] (by decide +kernel) (by decide +kernel)) (goodIn_sub (fun _ h => List.mem_append_left _ (List.mem_append_left _ (List.mem_append_right _ h))) (by decide +kernel))) (goodIn_sub (fun _ h => List.mem_append_left _ (List.mem_append_left _ (List.mem_append_left _ (List.mem_append_right _ h)))) (by decide +kernel))
set_option maxRecDepth 20000 in
theorem gL_law_L_lot : GoodIn wsL_law (va_wsS RL 102 yL_lot wsL_lot) := goodIn_app (goodIn_of _ (by decide +kernel)) ggL_law_L_lot
set_option maxRecDepth 20000 in
theorem ggL_law_X10_lot : GoodIn wsL_law wsX10_lot := goodIn_r _ [211, 156, 157, 212, 158, 159, 5, 160, 161, 162, 163, 164, 213, 214, 215, 216, 99, 100, 101, 102, 97, 103, 98, 969, 970, 971, 972, 973, 974, 975, 976, 977, 978, 979, 980, 981, 982, 983, 984, 985, 986, 987, 988, 989, 990, 991, 992, 993, 994, 995, 996, 997, 998, 999, 1000, 1001, 1002, 1003, 1004, 1005, 1006, 1007, 1008, 1009, 1010, 1011, 1012, 1013, 1014, 1015, 1016, 1017] (by decide +kernel) (by decide +kernel)
set_option maxRecDepth 20000 in
theorem gL_law_X10_lot : GoodIn wsL_law (wsV RL 105 RX10 yX10_lot wsX10_lot) := goodIn_app (goodIn_of _ (by decide +kernel)) ggL_law_X10_lot
set_option maxRecDepth 20000 in
theorem ggL_law_L_told : GoodIn wsL_law wsL_told := goodIn_ca (goodIn_ca (goodIn_r _ [219, 172, 128, 220, 221, 222, 2, 223, 133, 134, 224, 225, 226, 227, 228, 25, 229, 230, 231, 232, 233, 177, 178, 44, 17, 234, 235, 236, 24, 237, 52, 53, 238, 239, 240, 193, 241, 199, 1047, 1048, 1049, 1050, 1051, 1052, 1053, 1054, 953, 954, 955, 956, 957, 958, 959, 960, 961, 962, 963, 964, 965, 966, 967, 968, 1018, 1019] (by decide +kernel) (by decide +kernel)) (goodIn_sub (fun _ h => List.mem_append_left _ (List.mem_append_left _ (List.mem_append_left _ (List.mem_append_right _ h)))) (by decide +kernel))) (goodIn_sub (fun _ h => List.mem_append_left _ (List.mem_append_left _ (List.mem_append_right _ h))) (by decide +kernel))
set_option maxRecDepth 20000 in
theorem gL_law_L_told : GoodIn wsL_law (va_wsS RL 106 yL_told wsL_told) := goodIn_app (goodIn_of _ (by decide +kernel)) ggL_law_L_told
set_option maxRecDepth 20000 in
theorem ggL_law_X10_told : GoodIn wsL_law wsX10_told := goodIn_r _ [245, 156, 246, 106, 108, 99, 100, 101, 102, 103, 247, 248, 249, 5, 250, 212, 158, 159, 160, 161, 162, 163, 164, 251, 252, 253, 254, 104, 105, 969, 970, 971, 972, 973, 974, 975, 976, 977, 978, 979, 980, 981, 982, 983, 984, 985, 986, 987, 988, 989, 990, 991, 992, 993, 994, 995, 996, 997, 998, 999, 1000, 1001, 1002, 1003, 1004, 1005, 1006, 1007, 1008, 1009, 1010, 1011, 1012, 1013, 1014, 1015, 1016, 1017] (by decide +kernel) (by decide +kernel)
set_option maxRecDepth 20000 in
theorem gL_law_X10_told : GoodIn wsL_law (wsV RL 109 RX10 yX10_told wsX10_told) := goodIn_app (goodIn_of _ (by decide +kernel)) ggL_law_X10_told
set_option maxRecDepth 20000 in
theorem ggL_law_L_worth : GoodIn wsL_law wsL_worth := goodIn_ca (goodIn_ca (goodIn_r _ [257, 172, 128, 258, 259, 260, 2, 261, 133, 134, 182, 262, 230, 231, 232, 233, 177, 178, 44, 17, 140, 141, 142, 263, 264, 265, 193, 266, 205, 203, 207, 267, 268, 269, 270, 201, 271, 953, 954, 955, 956, 957, 958, 959, 960, 961, 962, 963, 964, 965, 966, 967, 968, 1047, 1048, 1049, 1050, 1051, 1052, 1053, 1054, 1042, 1043, 1044, 1045, 1046] (by decide +kernel) (by decide +kernel)) (goodIn_sub (fun _ h => List.mem_append_left _ (List.mem_append_left _ (List.mem_append_left _ (List.mem_append_right _ h)))) (by decide +kernel))) (goodIn_sub (fun _ h => List.mem_append_left _ (List.mem_append_left _ (List.mem_append_right _ h))) (by decide +kernel))
set_option maxRecDepth 20000 in
theorem gL_law_L_worth : GoodIn wsL_law (va_wsS RL 110 yL_worth wsL_worth) := goodIn_app (goodIn_of _ (by decide +kernel)) ggL_law_L_worth
set_option maxRecDepth 20000 in
theorem ggL_law_X10_worth : GoodIn wsL_law wsX10_worth := goodIn_r _ [275, 156, 247, 248, 249, 5, 250, 212, 158, 159, 160, 161, 162, 163, 164, 276, 277, 278, 279, 102, 101, 103, 94, 99, 969, 970, 971, 972, 973, 974, 975, 976, 977, 978, 979, 980, 981, 982, 983, 984, 985, 986, 987, 988, 989, 990, 991, 992, 993, 994, 995, 996, 997, 998, 999, 1000, 1001, 1002, 1003, 1004, 1005, 1006, 1007, 1008, 1009, 1010, 1011, 1012, 1013, 1014, 1015, 1016, 1017] (by decide +kernel) (by decide +kernel)
set_option maxRecDepth 20000 in
theorem gL_law_X10_worth : GoodIn wsL_law (wsV RL 112 RX10 yX10_worth wsX10_worth) := goodIn_app (goodIn_of _ (by decide +kernel)) ggL_law_X10_worth
set_option maxRecDepth 20000 in
theorem ggL_law_L_taste : GoodIn wsL_law wsL_taste := goodIn_ca (goodIn_ca (goodIn_r _ [282, 172, 128, 283, 284, 285, 2, 286, 133, 134, 227, 228, 230, 231, 232, 233, 177, 178, 44, 17, 287, 288, 289, 193, 290, 205, 207, 267, 268, 269, 270, 291, 292, 293, 294, 47, 295, 296, 297, 298, 299, 300, 301, 302, 303, 304, 305, 306, 1047, 1048, 1049, 1050, 1051, 1052, 1053, 1054, 953, 954, 955, 956, 957, 958, 959, 960, 961, 962, 963, 964, 965, 966, 967, 968] (by decide +kernel) (by decide +kernel)) (goodIn_sub (fun _ h => List.mem_append_left _ (List.mem_append_left _ (List.mem_append_left _ (List.mem_append_right _ h)))) (by decide +kernel))) (goodIn_sub (fun _ h => List.mem_append_left _ (List.mem_append_left _ (List.mem_append_right _ h))) (by decide +kernel))
set_option maxRecDepth 20000 in
theorem gL_law_L_taste : GoodIn wsL_law (va_wsS RL 113 yL_taste wsL_taste) := goodIn_app (goodIn_of _ (by decide +kernel)) ggL_law_L_taste
set_option maxRecDepth 20000 in
theorem ggL_law_X10_taste : GoodIn wsL_law wsX10_taste := goodIn_r _ [310, 156, 102, 103, 247, 248, 249, 5, 250, 212, 158, 159, 160, 161, 162, 163, 164, 311, 312, 313, 314, 315, 969, 970, 971, 972, 973, 974, 975, 976, 977, 978, 979, 980, 981, 982, 983, 984, 985, 986, 987, 988, 989, 990, 991, 992, 993, 994, 995, 996, 997, 998, 999, 1000, 1001, 1002, 1003, 1004, 1005, 1006, 1007, 1008, 1009, 1010, 1011, 1012, 1013, 1014, 1015, 1016, 1017] (by decide +kernel) (by decide +kernel)
set_option maxRecDepth 20000 in
theorem gL_law_X10_taste : GoodIn wsL_law (wsV RL 115 RX10 yX10_taste wsX10_taste) := goodIn_app (goodIn_of _ (by decide +kernel)) ggL_law_X10_taste
set_option maxRecDepth 20000 in
theorem ggL_law_L_put : GoodIn wsL_law wsL_put := goodIn_ca (goodIn_ca (goodIn_ca (goodIn_r _ [318, 319, 172, 128, 320, 321, 322, 2, 323, 133, 134, 324, 25, 33, 325, 326, 327, 328, 329, 330, 331, 230, 231, 232, 233, 177, 178, 44, 17, 140, 141, 142, 332, 333, 334, 24, 335, 52, 336, 337, 338, 339, 53, 340, 341, 342, 343, 344, 345, 346, 347, 953, 954, 955, 956, 957, 958, 959, 960, 961, 962, 963, 964, 965, 966, 967, 968, 1024, 1025, 1026, 1027, 1028, 1029, 1030, 1031, 1018, 1019] (by decide +kernel) (by decide +kernel)) (goodIn_sub (fun _ h => List.mem_append_left _ (List.mem_append_left _ (List.mem_append_left _ (List.mem_append_right _ h)))) (by decide +kernel))) (goodIn_sub (fun _ h => List.mem_append_left _ (List.mem_append_right _ h)) (by decide +kernel))) (goodIn_sub (fun _ h => List.mem_append_left _ (List.mem_append_left _ (List.mem_append_right _ h))) (by decide +kernel))
set_option maxRecDepth 20000 in
theorem gL_law_L_put : GoodIn wsL_law (va_wsS RL 116 yL_put wsL_put) := goodIn_app (goodIn_of _ (by decide +kernel)) ggL_law_L_put
set_option maxRecDepth 20000 in
theorem ggL_law_X10_put : GoodIn wsL_law wsX10_put := goodIn_r _ [351, 156, 104, 105, 352, 353, 354, 355, 5, 356, 158, 159, 160, 161, 162, 163, 164, 247, 248, 249, 250, 212, 357, 358, 359, 360, 969, 970, 971, 972, 973, 974, 975, 976, 977, 978, 979, 980, 981, 982, 983, 984, 985, 986, 987, 988, 989, 990, 991, 992, 993, 994, 995, 996, 997, 998, 999, 1000, 1001, 1002, 1003, 1004, 1005, 1006, 1007, 1008, 1009, 1010, 1011, 1012, 1013, 1014, 1015, 1016, 1017] (by decide +kernel) (by decide +kernel)
set_option maxRecDepth 20000 in
theorem gL_law_X10_put : GoodIn wsL_law (wsV RL 118 RX10 yX10_put wsX10_put) := goodIn_app (goodIn_of _ (by decide +kernel)) ggL_law_X10_put
set_option maxRecDepth 20000 in
theorem ggL_law_L_move : GoodIn wsL_law wsL_move := goodIn_ca (goodIn_ca (goodIn_r _ [363, 319, 128, 364, 365, 366, 2, 367, 133, 134, 25, 326, 368, 327, 328, 329, 330, 331, 332, 333, 334, 24, 335, 52, 336, 337, 338, 339, 53, 340, 341, 342, 343, 369, 370, 371, 372, 344, 345, 346, 347, 953, 954, 955, 956, 957, 958, 959, 960, 961, 962, 963, 964, 965, 966, 967, 968, 1018, 1019] (by decide +kernel) (by decide +kernel)) (goodIn_sub (fun _ h => List.mem_append_left _ (List.mem_append_left _ (List.mem_append_left _ (List.mem_append_right _ h)))) (by decide +kernel))) (goodIn_sub (fun _ h => List.mem_append_left _ (List.mem_append_right _ h)) (by decide +kernel))
set_option maxRecDepth 20000 in
theorem gL_law_L_move : GoodIn wsL_law (va_wsS RL 119 yL_move wsL_move) := goodIn_app (goodIn_of _ (by decide +kernel)) ggL_law_L_move
set_option maxRecDepth 20000 in
theorem ggL_law_X10_move : GoodIn wsL_law wsX10_move := goodIn_r _ [376, 156, 105, 104, 353, 354, 355, 5, 356, 158, 159, 160, 161, 162, 163, 164, 357, 358, 359, 360, 969, 970, 971, 972, 973, 974, 975, 976, 977, 978, 979, 980, 981, 982, 983, 984, 985, 986, 987, 988, 989, 990, 991, 992, 993, 994, 995, 996, 997, 998, 999, 1000, 1001, 1002, 1003, 1004, 1005, 1006, 1007, 1008, 1009, 1010, 1011, 1012, 1013, 1014, 1015, 1016, 1017] (by decide +kernel) (by decide +kernel)
set_option maxRecDepth 20000 in
theorem gL_law_X10_move : GoodIn wsL_law (wsV RL 121 RX10 yX10_move wsX10_move) := goodIn_app (goodIn_of _ (by decide +kernel)) ggL_law_X10_move
set_option maxRecDepth 20000 in
theorem ggL_law_L_cell : GoodIn wsL_law wsL_cell := goodIn_ca (goodIn_ca (goodIn_r _ [379, 319, 128, 380, 381, 382, 2, 383, 133, 134, 25, 368, 326, 327, 328, 329, 330, 331, 140, 141, 142, 953, 954, 955, 956, 957, 958, 959, 960, 961, 962, 963, 964, 965, 966, 967, 968, 1018, 1019] (by decide +kernel) (by decide +kernel)) (goodIn_sub (fun _ h => List.mem_append_left _ (List.mem_append_left _ (List.mem_append_left _ (List.mem_append_right _ h)))) (by decide +kernel))) (goodIn_sub (fun _ h => List.mem_append_left _ (List.mem_append_right _ h)) (by decide +kernel))
set_option maxRecDepth 20000 in
theorem gL_law_L_cell : GoodIn wsL_law (va_wsS RL 122 yL_cell wsL_cell) := goodIn_app (goodIn_of _ (by decide +kernel)) ggL_law_L_cell
set_option maxRecDepth 20000 in
theorem ggL_law_X10_cell : GoodIn wsL_law wsX10_cell := goodIn_r _ [387, 156, 104, 105, 353, 354, 355, 5, 356, 158, 159, 160, 161, 162, 163, 164, 969, 970, 971, 972, 973, 974, 975, 976, 977, 978, 979, 980, 981, 982, 983, 984, 985, 986, 987, 988, 989, 990, 991, 992, 993, 994, 995, 996, 997, 998, 999, 1000, 1001, 1002, 1003, 1004, 1005, 1006, 1007, 1008, 1009, 1010, 1011, 1012, 1013, 1014, 1015, 1016, 1017] (by decide +kernel) (by decide +kernel)
set_option maxRecDepth 20000 in
theorem gL_law_X10_cell : GoodIn wsL_law (wsV RL 124 RX10 yX10_cell wsX10_cell) := goodIn_app (goodIn_of _ (by decide +kernel)) ggL_law_X10_cell
set_option maxRecDepth 20000 in
theorem ggL_law_L_find : GoodIn wsL_law wsL_find := goodIn_ca (goodIn_r _ [390, 172, 391, 392, 393, 2, 394, 25, 230, 231, 232, 233, 177, 178, 44, 17, 395, 396, 397, 24, 398, 52, 953, 954, 955, 956, 957, 958, 959, 960, 961, 962, 963, 964, 965, 966, 967, 968, 1018, 1019] (by decide +kernel) (by decide +kernel)) (goodIn_sub (fun _ h => List.mem_append_left _ (List.mem_append_left _ (List.mem_append_right _ h))) (by decide +kernel))
set_option maxRecDepth 20000 in
theorem gL_law_L_find : GoodIn wsL_law (va_wsS RL 125 yL_find wsL_find) := goodIn_app (goodIn_of _ (by decide +kernel)) ggL_law_L_find
set_option maxRecDepth 20000 in
theorem ggL_law_X10_find : GoodIn wsL_law wsX10_find := goodIn_r _ [402, 156, 104, 247, 248, 249, 5, 250, 212, 158, 159, 160, 161, 162, 163, 164, 969, 970, 971, 972, 973, 974, 975, 976, 977, 978, 979, 980, 981, 982, 983, 984, 985, 986, 987, 988, 989, 990, 991, 992, 993, 994, 995, 996, 997, 998, 999, 1000, 1001, 1002, 1003, 1004, 1005, 1006, 1007, 1008, 1009, 1010, 1011, 1012, 1013, 1014, 1015, 1016, 1017] (by decide +kernel) (by decide +kernel)
set_option maxRecDepth 20000 in
theorem gL_law_X10_find : GoodIn wsL_law (wsV RL 127 RX10 yX10_find wsX10_find) := goodIn_app (goodIn_of _ (by decide +kernel)) ggL_law_X10_find
set_option maxRecDepth 20000 in
theorem ggL_law_L_sell : GoodIn wsL_law wsL_sell := goodIn_ca (goodIn_ca (goodIn_r _ [405, 319, 406, 407, 408, 2, 409, 25, 368, 33, 410, 411, 327, 328, 329, 330, 331, 412, 337, 338, 24, 339, 53, 230, 231, 232, 233, 177, 178, 44, 17, 291, 292, 293, 294, 47, 413, 414, 415, 193, 416, 205, 207, 201, 271, 263, 264, 265, 266, 203, 267, 268, 269, 270, 369, 370, 371, 372, 52, 953, 954, 955, 956, 957, 958, 959, 960, 961, 962, 963, 964, 965, 966, 967, 968, 1018, 1019, 1024, 1025, 1026, 1027, 1028, 1029, 1030, 1031, 1047, 1048, 1049, 1050, 1051, 1052, 1053, 1054, 1042, 1043, 1044, 1045, 1046] (by decide +kernel) (by decide +kernel)) (goodIn_sub (fun _ h => List.mem_append_left _ (List.mem_append_right _ h)) (by decide +kernel))) (goodIn_sub (fun _ h => List.mem_append_left _ (List.mem_append_left _ (List.mem_append_right _ h))) (by decide +kernel))
set_option maxRecDepth 20000 in
theorem gL_law_L_sell : GoodIn wsL_law (va_wsS RL 128 yL_sell wsL_sell) := goodIn_app (goodIn_of _ (by decide +kernel)) ggL_law_L_sell
set_option maxRecDepth 20000 in
theorem ggL_law_X10_sell : GoodIn wsL_law wsX10_sell := goodIn_r _ [420, 156, 104, 421, 422, 353, 354, 355, 5, 356, 158, 159, 160, 161, 162, 163, 164, 423, 424, 425, 426, 102, 103, 94, 99, 311, 312, 313, 314, 315, 357, 358, 359, 360, 105, 276, 277, 278, 279, 101, 969, 970, 971, 972, 973, 974, 975, 976, 977, 978, 979, 980, 981, 982, 983, 984, 985, 986, 987, 988, 989, 990, 991, 992, 993, 994, 995, 996, 997, 998, 999, 1000, 1001, 1002, 1003, 1004, 1005, 1006, 1007, 1008, 1009, 1010, 1011, 1012, 1013, 1014, 1015, 1016, 1017] (by decide +kernel) (by decide +kernel)
set_option maxRecDepth 20000 in
theorem gL_law_X10_sell : GoodIn wsL_law (wsV RL 131 RX10 yX10_sell wsX10_sell) := goodIn_app (goodIn_of _ (by decide +kernel)) ggL_law_X10_sell
set_option maxRecDepth 20000 in
theorem ggL_law_L_broken : GoodIn wsL_law wsL_broken := goodIn_ca (goodIn_r _ [429, 319, 430, 431, 432, 2, 433, 25, 33, 434, 326, 327, 328, 329, 330, 331, 412, 337, 338, 24, 339, 53, 369, 370, 371, 372, 52, 953, 954, 955, 956, 957, 958, 959, 960, 961, 962, 963, 964, 965, 966, 967, 968, 1024, 1025, 1026, 1027, 1028, 1029, 1030, 1031, 1018, 1019] (by decide +kernel) (by decide +kernel)) (goodIn_sub (fun _ h => List.mem_append_left _ (List.mem_append_right _ h)) (by decide +kernel))
set_option maxRecDepth 20000 in
theorem gL_law_L_broken : GoodIn wsL_law (va_wsS RL 132 yL_broken wsL_broken) := goodIn_app (goodIn_of _ (by decide +kernel)) ggL_law_L_broken
set_option maxRecDepth 20000 in
theorem ggL_law_X10_broken : GoodIn wsL_law wsX10_broken := goodIn_r _ [438, 156, 104, 439, 105, 353, 354, 355, 5, 356, 158, 159, 160, 161, 162, 163, 164, 357, 358, 359, 360, 969, 970, 971, 972, 973, 974, 975, 976, 977, 978, 979, 980, 981, 982, 983, 984, 985, 986, 987, 988, 989, 990, 991, 992, 993, 994, 995, 996, 997, 998, 999, 1000, 1001, 1002, 1003, 1004, 1005, 1006, 1007, 1008, 1009, 1010, 1011, 1012, 1013, 1014, 1015, 1016, 1017] (by decide +kernel) (by decide +kernel)
set_option maxRecDepth 20000 in
theorem gL_law_X10_broken : GoodIn wsL_law (wsV RL 134 RX10 yX10_broken wsX10_broken) := goodIn_app (goodIn_of _ (by decide +kernel)) ggL_law_X10_broken
set_option maxRecDepth 20000 in
theorem ggL_law_L_counted : GoodIn wsL_law wsL_counted := goodIn_ca (goodIn_ca (goodIn_r _ [442, 319, 128, 443, 444, 445, 2, 446, 133, 134, 324, 25, 326, 368, 33, 447, 434, 327, 328, 329, 330, 331, 140, 141, 142, 412, 337, 338, 24, 339, 53, 344, 345, 346, 347, 52, 369, 370, 371, 372, 953, 954, 955, 956, 957, 958, 959, 960, 961, 962, 963, 964, 965, 966, 967, 968, 1018, 1019, 1024, 1025, 1026, 1027, 1028, 1029, 1030, 1031] (by decide +kernel) (by decide +kernel)) (goodIn_sub (fun _ h => List.mem_append_left _ (List.mem_append_left _ (List.mem_append_left _ (List.mem_append_right _ h)))) (by decide +kernel))) (goodIn_sub (fun _ h => List.mem_append_left _ (List.mem_append_right _ h)) (by decide +kernel))
set_option maxRecDepth 20000 in
theorem gL_law_L_counted : GoodIn wsL_law (va_wsS RL 135 yL_counted wsL_counted) := goodIn_app (goodIn_of _ (by decide +kernel)) ggL_law_L_counted
set_option maxRecDepth 20000 in
theorem ggL_law_X10_counted : GoodIn wsL_law wsX10_counted := goodIn_r _ [451, 156, 104, 105, 452, 439, 353, 354, 355, 5, 356, 158, 159, 160, 161, 162, 163, 164, 357, 358, 359, 360, 969, 970, 971, 972, 973, 974, 975, 976, 977, 978, 979, 980, 981, 982, 983, 984, 985, 986, 987, 988, 989, 990, 991, 992, 993, 994, 995, 996, 997, 998, 999, 1000, 1001, 1002, 1003, 1004, 1005, 1006, 1007, 1008, 1009, 1010, 1011, 1012, 1013, 1014, 1015, 1016, 1017] (by decide +kernel) (by decide +kernel)
set_option maxRecDepth 20000 in
theorem gL_law_X10_counted : GoodIn wsL_law (wsV RL 137 RX10 yX10_counted wsX10_counted) := goodIn_app (goodIn_of _ (by decide +kernel)) ggL_law_X10_counted
