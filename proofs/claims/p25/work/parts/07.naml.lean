theorem dL_cell_0 : decode cL_cell 0 = .ok (.iload_n 1, 1) := by decide +kernel
theorem dL_cell_1 : decode cL_cell 1 = .ok (.aload_n 0, 1) := by decide +kernel
theorem dL_cell_2 : decode cL_cell 2 = .ok (.arraylength, 1) := by decide +kernel
theorem dL_cell_3 : decode cL_cell 3 = .ok (.if_icmp .ge 9, 3) := by decide +kernel
theorem dL_cell_6 : decode cL_cell 6 = .ok (.aload_n 0, 1) := by decide +kernel
theorem dL_cell_7 : decode cL_cell 7 = .ok (.iload_n 1, 1) := by decide +kernel
theorem dL_cell_8 : decode cL_cell 8 = .ok (.iaload, 1) := by decide +kernel
theorem dL_cell_9 : decode cL_cell 9 = .ok (.goto 10, 3) := by decide +kernel
theorem dL_cell_12 : decode cL_cell 12 = .ok (.ldc 7, 2) := by decide +kernel
theorem dL_cell_14 : decode cL_cell 14 = .ok (.iload_n 1, 1) := by decide +kernel
theorem dL_cell_15 : decode cL_cell 15 = .ok (.bipush 6, 2) := by decide +kernel
theorem dL_cell_17 : decode cL_cell 17 = .ok (.iadd, 1) := by decide +kernel
theorem dL_cell_18 : decode cL_cell 18 = .ok (.imul, 1) := by decide +kernel
theorem dL_cell_19 : decode cL_cell 19 = .ok (.ireturn, 1) := by decide +kernel
theorem dL_low_0 : decode cL_low 0 = .ok (.iload_n 0, 1) := by decide +kernel
theorem dL_low_1 : decode cL_low 1 = .ok (.iconst 1, 1) := by decide +kernel
theorem dL_low_2 : decode cL_low 2 = .ok (.iushr, 1) := by decide +kernel
theorem dL_low_3 : decode cL_low 3 = .ok (.iload_n 1, 1) := by decide +kernel
theorem dL_low_4 : decode cL_low 4 = .ok (.irem, 1) := by decide +kernel
theorem dL_low_5 : decode cL_low 5 = .ok (.ireturn, 1) := by decide +kernel
set_option maxRecDepth 20000 in
theorem ggL_join_X0_join : GoodIn wsL_join wsX0_join := goodIn_ca (goodIn_ca (goodIn_ca (goodIn_r _ [8, 9, 10, 11, 12, 13, 7, 14, 15, 16, 17, 18, 19, 20, 21, 22, 23, 24, 25, 26, 27, 28, 29, 30, 31, 32, 33, 34, 35, 36, 37, 38, 39, 40, 41, 42, 43, 44, 45, 46, 47, 48, 49, 50, 51, 52, 53, 54, 55, 56, 57, 58, 59, 60, 61, 62, 63, 64, 65, 66, 67, 68, 69, 70, 71, 72, 73, 74, 75, 76, 77, 78, 79, 80, 81, 82, 83, 84, 85, 86, 87, 88] (by decide +kernel) (by decide +kernel)) (goodIn_sub (fun _ h => List.mem_cons_of_mem _ (List.mem_append_left _ (List.mem_append_left _ (List.mem_append_right _ h)))) (by decide +kernel))) (goodIn_sub (fun _ h => List.mem_cons_of_mem _ (List.mem_append_left _ (List.mem_append_right _ h))) (by decide +kernel))) (goodIn_sub (fun _ h => List.mem_cons_of_mem _ (List.mem_append_right _ h)) (by decide +kernel))
set_option maxRecDepth 20000 in
theorem gL_join_X0_join : GoodIn wsL_join (wsV RL 8 RX0 yX0_join wsX0_join) := goodIn_app (goodIn_of _ (by decide +kernel)) ggL_join_X0_join
theorem dL_join_0 : decode cL_join 0 = .ok (.aload_n 0, 1) := by decide +kernel
theorem dL_join_1 : decode cL_join 1 = .ok (.iload_n 1, 1) := by decide +kernel
theorem dL_join_2 : decode cL_join 2 = .ok (.iload_n 2, 1) := by decide +kernel
theorem dL_join_3 : decode cL_join 3 = .ok (.invokevirtual 8, 3) := by decide +kernel
theorem dL_join_6 : decode cL_join 6 = .ok (.istore_n 3, 1) := by decide +kernel
theorem dL_join_7 : decode cL_join 7 = .ok (.goto 21, 3) := by decide +kernel
theorem dL_join_10 : decode cL_join 10 = .ok (.astore 4, 2) := by decide +kernel
theorem dL_join_12 : decode cL_join 12 = .ok (.sipush (-7100), 3) := by decide +kernel
theorem dL_join_15 : decode cL_join 15 = .ok (.ireturn, 1) := by decide +kernel
theorem dL_join_16 : decode cL_join 16 = .ok (.astore 4, 2) := by decide +kernel
theorem dL_join_18 : decode cL_join 18 = .ok (.sipush (-7200), 3) := by decide +kernel
theorem dL_join_21 : decode cL_join 21 = .ok (.ireturn, 1) := by decide +kernel
theorem dL_join_22 : decode cL_join 22 = .ok (.astore 4, 2) := by decide +kernel
theorem dL_join_24 : decode cL_join 24 = .ok (.sipush (-7300), 3) := by decide +kernel
theorem dL_join_27 : decode cL_join 27 = .ok (.ireturn, 1) := by decide +kernel
theorem dL_join_28 : decode cL_join 28 = .ok (.iload_n 3, 1) := by decide +kernel
theorem dL_join_29 : decode cL_join 29 = .ok (.ireturn, 1) := by decide +kernel
set_option maxRecDepth 20000 in
theorem ggL_address_X0_address : GoodIn wsL_address wsX0_address := goodIn_ca (goodIn_r _ [6, 7, 8, 5, 9, 10, 11, 12, 13, 14, 15, 16, 17, 18, 19, 20, 21, 22, 23, 24, 25, 26, 27, 28, 29, 30, 31, 32, 33, 34, 35, 36, 37, 38, 39, 40, 41, 42, 43, 44, 45, 46, 47, 48, 49, 50, 51, 52, 53, 54, 55, 56, 57, 58, 59, 60, 61] (by decide +kernel) (by decide +kernel)) (goodIn_sub (fun _ h => List.mem_cons_of_mem _ (List.mem_append_right _ h)) (by decide +kernel))
set_option maxRecDepth 20000 in
theorem gL_address_X0_address : GoodIn wsL_address (wsV RL 27 RX0 yX0_address wsX0_address) := goodIn_app (goodIn_of _ (by decide +kernel)) ggL_address_X0_address
theorem dL_address_0 : decode cL_address 0 = .ok (.aload_n 0, 1) := by decide +kernel
theorem dL_address_1 : decode cL_address 1 = .ok (.iload_n 1, 1) := by decide +kernel
theorem dL_address_2 : decode cL_address 2 = .ok (.invokevirtual 27, 3) := by decide +kernel
theorem dL_address_5 : decode cL_address 5 = .ok (.istore_n 2, 1) := by decide +kernel
theorem dL_address_6 : decode cL_address 6 = .ok (.goto 8, 3) := by decide +kernel
theorem dL_address_9 : decode cL_address 9 = .ok (.astore_n 3, 1) := by decide +kernel
theorem dL_address_10 : decode cL_address 10 = .ok (.sipush (-7100), 3) := by decide +kernel
theorem dL_address_13 : decode cL_address 13 = .ok (.ireturn, 1) := by decide +kernel
theorem dL_address_14 : decode cL_address 14 = .ok (.iload_n 2, 1) := by decide +kernel
theorem dL_address_15 : decode cL_address 15 = .ok (.ireturn, 1) := by decide +kernel
set_option maxRecDepth 20000 in
theorem ggL_inDistrict_X0_inDistrict : GoodIn wsL_inDistrict wsX0_inDistrict := goodIn_ca (goodIn_r _ [6, 7, 8, 5, 9, 10, 11, 12, 13, 14, 15, 16, 17, 18, 19, 20, 21, 22, 23, 24, 25, 26, 27, 28, 29, 30, 31, 32, 33, 34, 35, 36, 37, 38, 39, 40, 41, 42, 43, 44, 45, 46, 47, 48, 49, 50, 51, 52, 53, 54, 55, 56, 57, 58, 59, 60, 61, 62, 63, 64] (by decide +kernel) (by decide +kernel)) (goodIn_sub (fun _ h => List.mem_cons_of_mem _ (List.mem_append_right _ h)) (by decide +kernel))
set_option maxRecDepth 20000 in
theorem gL_inDistrict_X0_inDistrict : GoodIn wsL_inDistrict (wsV RL 30 RX0 yX0_inDistrict wsX0_inDistrict) := goodIn_app (goodIn_of _ (by decide +kernel)) ggL_inDistrict_X0_inDistrict
theorem dL_inDistrict_0 : decode cL_inDistrict 0 = .ok (.aload_n 0, 1) := by decide +kernel
theorem dL_inDistrict_1 : decode cL_inDistrict 1 = .ok (.iload_n 1, 1) := by decide +kernel
theorem dL_inDistrict_2 : decode cL_inDistrict 2 = .ok (.invokevirtual 30, 3) := by decide +kernel
theorem dL_inDistrict_5 : decode cL_inDistrict 5 = .ok (.istore_n 2, 1) := by decide +kernel
theorem dL_inDistrict_6 : decode cL_inDistrict 6 = .ok (.goto 8, 3) := by decide +kernel
theorem dL_inDistrict_9 : decode cL_inDistrict 9 = .ok (.astore_n 3, 1) := by decide +kernel
theorem dL_inDistrict_10 : decode cL_inDistrict 10 = .ok (.sipush (-7100), 3) := by decide +kernel
theorem dL_inDistrict_13 : decode cL_inDistrict 13 = .ok (.ireturn, 1) := by decide +kernel
theorem dL_inDistrict_14 : decode cL_inDistrict 14 = .ok (.iload_n 2, 1) := by decide +kernel
theorem dL_inDistrict_15 : decode cL_inDistrict 15 = .ok (.ireturn, 1) := by decide +kernel
set_option maxRecDepth 20000 in
theorem ggL_rangeOf_X0_rangeOf : GoodIn wsL_rangeOf wsX0_rangeOf := goodIn_ca (goodIn_r _ [6, 7, 8, 5, 9, 10, 11, 12, 13, 14, 15, 16, 17, 18, 19, 20, 21, 22, 23, 24, 25, 26, 27, 28, 29, 30, 31, 32, 33, 34, 35, 36, 37, 38, 39, 40, 41, 42, 43, 44] (by decide +kernel) (by decide +kernel)) (goodIn_sub (fun _ h => List.mem_cons_of_mem _ (List.mem_append_right _ h)) (by decide +kernel))
set_option maxRecDepth 20000 in
theorem gL_rangeOf_X0_rangeOf : GoodIn wsL_rangeOf (wsV RL 48 RX0 yX0_rangeOf wsX0_rangeOf) := goodIn_app (goodIn_of _ (by decide +kernel)) ggL_rangeOf_X0_rangeOf
theorem dL_rangeOf_0 : decode cL_rangeOf 0 = .ok (.aload_n 0, 1) := by decide +kernel
theorem dL_rangeOf_1 : decode cL_rangeOf 1 = .ok (.iload_n 1, 1) := by decide +kernel
theorem dL_rangeOf_2 : decode cL_rangeOf 2 = .ok (.invokevirtual 48, 3) := by decide +kernel
theorem dL_rangeOf_5 : decode cL_rangeOf 5 = .ok (.istore_n 2, 1) := by decide +kernel
theorem dL_rangeOf_6 : decode cL_rangeOf 6 = .ok (.goto 8, 3) := by decide +kernel
theorem dL_rangeOf_9 : decode cL_rangeOf 9 = .ok (.astore_n 3, 1) := by decide +kernel
theorem dL_rangeOf_10 : decode cL_rangeOf 10 = .ok (.sipush (-7100), 3) := by decide +kernel
theorem dL_rangeOf_13 : decode cL_rangeOf 13 = .ok (.ireturn, 1) := by decide +kernel
theorem dL_rangeOf_14 : decode cL_rangeOf 14 = .ok (.iload_n 2, 1) := by decide +kernel
theorem dL_rangeOf_15 : decode cL_rangeOf 15 = .ok (.ireturn, 1) := by decide +kernel
set_option maxRecDepth 20000 in
theorem ggL_shardOf_X0_shardOf : GoodIn wsL_shardOf wsX0_shardOf := goodIn_ca (goodIn_r _ [6, 7, 8, 9, 10, 5, 11, 12, 13, 14, 15, 16, 17, 18, 19, 20, 21, 22, 23, 24, 25, 26, 27, 28, 29, 30, 31, 32, 33, 34] (by decide +kernel) (by decide +kernel)) (goodIn_sub (fun _ h => List.mem_cons_of_mem _ (List.mem_append_right _ h)) (by decide +kernel))
set_option maxRecDepth 20000 in
theorem gL_shardOf_X0_shardOf : GoodIn wsL_shardOf (wsV RL 51 RX0 yX0_shardOf wsX0_shardOf) := goodIn_app (goodIn_of _ (by decide +kernel)) ggL_shardOf_X0_shardOf
theorem dL_shardOf_0 : decode cL_shardOf 0 = .ok (.aload_n 0, 1) := by decide +kernel
theorem dL_shardOf_1 : decode cL_shardOf 1 = .ok (.iload_n 1, 1) := by decide +kernel
theorem dL_shardOf_2 : decode cL_shardOf 2 = .ok (.invokevirtual 51, 3) := by decide +kernel
theorem dL_shardOf_5 : decode cL_shardOf 5 = .ok (.istore_n 2, 1) := by decide +kernel
theorem dL_shardOf_6 : decode cL_shardOf 6 = .ok (.goto 8, 3) := by decide +kernel
theorem dL_shardOf_9 : decode cL_shardOf 9 = .ok (.astore_n 3, 1) := by decide +kernel
theorem dL_shardOf_10 : decode cL_shardOf 10 = .ok (.sipush (-7100), 3) := by decide +kernel
theorem dL_shardOf_13 : decode cL_shardOf 13 = .ok (.ireturn, 1) := by decide +kernel
theorem dL_shardOf_14 : decode cL_shardOf 14 = .ok (.iload_n 2, 1) := by decide +kernel
theorem dL_shardOf_15 : decode cL_shardOf 15 = .ok (.ireturn, 1) := by decide +kernel
set_option maxRecDepth 20000 in
theorem ggL_rows_X0_rows : GoodIn wsL_rows wsX0_rows := goodIn_ca (goodIn_r _ [6, 7, 8, 5, 9, 10, 11, 12, 13, 14, 15, 16, 17, 18, 19, 20, 21, 22, 23, 24, 25, 26, 27, 28, 29, 30, 31, 32, 33, 34, 35, 36, 37, 38, 39, 40, 41, 42] (by decide +kernel) (by decide +kernel)) (goodIn_sub (fun _ h => List.mem_cons_of_mem _ (List.mem_append_right _ h)) (by decide +kernel))
set_option maxRecDepth 20000 in
theorem gL_rows_X0_rows : GoodIn wsL_rows (wsV RL 54 RX0 yX0_rows wsX0_rows) := goodIn_app (goodIn_of _ (by decide +kernel)) ggL_rows_X0_rows
theorem dL_rows_0 : decode cL_rows 0 = .ok (.aload_n 0, 1) := by decide +kernel
theorem dL_rows_1 : decode cL_rows 1 = .ok (.iload_n 1, 1) := by decide +kernel
theorem dL_rows_2 : decode cL_rows 2 = .ok (.invokevirtual 54, 3) := by decide +kernel
theorem dL_rows_5 : decode cL_rows 5 = .ok (.istore_n 2, 1) := by decide +kernel
theorem dL_rows_6 : decode cL_rows 6 = .ok (.goto 8, 3) := by decide +kernel
theorem dL_rows_9 : decode cL_rows 9 = .ok (.astore_n 3, 1) := by decide +kernel
theorem dL_rows_10 : decode cL_rows 10 = .ok (.sipush (-7100), 3) := by decide +kernel
theorem dL_rows_13 : decode cL_rows 13 = .ok (.ireturn, 1) := by decide +kernel
theorem dL_rows_14 : decode cL_rows 14 = .ok (.iload_n 2, 1) := by decide +kernel
theorem dL_rows_15 : decode cL_rows 15 = .ok (.ireturn, 1) := by decide +kernel
set_option maxRecDepth 20000 in
theorem ggL_onRoll_X0_onRoll : GoodIn wsL_onRoll wsX0_onRoll := goodIn_ca (goodIn_r _ [6, 7, 8, 9, 10, 5, 11, 12, 13, 14, 15, 16, 17, 18, 19, 20, 21, 22, 23, 24, 25, 26, 27, 28, 29, 30, 31, 32] (by decide +kernel) (by decide +kernel)) (goodIn_sub (fun _ h => List.mem_cons_of_mem _ (List.mem_append_right _ h)) (by decide +kernel))
set_option maxRecDepth 20000 in
theorem gL_onRoll_X0_onRoll : GoodIn wsL_onRoll (wsV RL 61 RX0 yX0_onRoll wsX0_onRoll) := goodIn_app (goodIn_of _ (by decide +kernel)) ggL_onRoll_X0_onRoll
theorem dL_onRoll_0 : decode cL_onRoll 0 = .ok (.aload_n 0, 1) := by decide +kernel
theorem dL_onRoll_1 : decode cL_onRoll 1 = .ok (.iload_n 1, 1) := by decide +kernel
theorem dL_onRoll_2 : decode cL_onRoll 2 = .ok (.invokevirtual 61, 3) := by decide +kernel
theorem dL_onRoll_5 : decode cL_onRoll 5 = .ok (.istore_n 2, 1) := by decide +kernel
theorem dL_onRoll_6 : decode cL_onRoll 6 = .ok (.goto 8, 3) := by decide +kernel
theorem dL_onRoll_9 : decode cL_onRoll 9 = .ok (.astore_n 3, 1) := by decide +kernel
theorem dL_onRoll_10 : decode cL_onRoll 10 = .ok (.sipush (-7100), 3) := by decide +kernel
theorem dL_onRoll_13 : decode cL_onRoll 13 = .ok (.ireturn, 1) := by decide +kernel
theorem dL_onRoll_14 : decode cL_onRoll 14 = .ok (.iload_n 2, 1) := by decide +kernel
theorem dL_onRoll_15 : decode cL_onRoll 15 = .ok (.ireturn, 1) := by decide +kernel
set_option maxRecDepth 20000 in
theorem ggL_sentTo_X0_sentTo : GoodIn wsL_sentTo wsX0_sentTo := goodIn_ca (goodIn_r _ [6, 7, 8, 9, 10, 5, 11, 12, 13, 14, 15, 16, 17, 18, 19, 20, 21, 22, 23, 24, 25, 26, 27, 28, 29, 30, 31, 32, 33, 34] (by decide +kernel) (by decide +kernel)) (goodIn_sub (fun _ h => List.mem_cons_of_mem _ (List.mem_append_right _ h)) (by decide +kernel))
set_option maxRecDepth 20000 in
theorem gL_sentTo_X0_sentTo : GoodIn wsL_sentTo (wsV RL 67 RX0 yX0_sentTo wsX0_sentTo) := goodIn_app (goodIn_of _ (by decide +kernel)) ggL_sentTo_X0_sentTo
theorem dL_sentTo_0 : decode cL_sentTo 0 = .ok (.aload_n 0, 1) := by decide +kernel
theorem dL_sentTo_1 : decode cL_sentTo 1 = .ok (.iload_n 1, 1) := by decide +kernel
theorem dL_sentTo_2 : decode cL_sentTo 2 = .ok (.invokevirtual 67, 3) := by decide +kernel
theorem dL_sentTo_5 : decode cL_sentTo 5 = .ok (.istore_n 2, 1) := by decide +kernel
theorem dL_sentTo_6 : decode cL_sentTo 6 = .ok (.goto 8, 3) := by decide +kernel
theorem dL_sentTo_9 : decode cL_sentTo 9 = .ok (.astore_n 3, 1) := by decide +kernel
theorem dL_sentTo_10 : decode cL_sentTo 10 = .ok (.sipush (-7100), 3) := by decide +kernel
theorem dL_sentTo_13 : decode cL_sentTo 13 = .ok (.ireturn, 1) := by decide +kernel
theorem dL_sentTo_14 : decode cL_sentTo 14 = .ok (.iload_n 2, 1) := by decide +kernel
theorem dL_sentTo_15 : decode cL_sentTo 15 = .ok (.ireturn, 1) := by decide +kernel
set_option maxRecDepth 20000 in
theorem ggL_stateOf_X0_stateOf : GoodIn wsL_stateOf wsX0_stateOf := goodIn_ca (goodIn_r _ [6, 7, 8, 9, 10, 5, 11, 12, 13, 14, 15, 16, 17, 18, 19, 20, 21, 22, 23, 24, 25, 26, 27, 28, 29, 30, 31, 32, 33, 34] (by decide +kernel) (by decide +kernel)) (goodIn_sub (fun _ h => List.mem_cons_of_mem _ (List.mem_append_right _ h)) (by decide +kernel))
set_option maxRecDepth 20000 in
theorem gL_stateOf_X0_stateOf : GoodIn wsL_stateOf (wsV RL 73 RX0 yX0_stateOf wsX0_stateOf) := goodIn_app (goodIn_of _ (by decide +kernel)) ggL_stateOf_X0_stateOf
theorem dL_stateOf_0 : decode cL_stateOf 0 = .ok (.aload_n 0, 1) := by decide +kernel
theorem dL_stateOf_1 : decode cL_stateOf 1 = .ok (.iload_n 1, 1) := by decide +kernel
theorem dL_stateOf_2 : decode cL_stateOf 2 = .ok (.invokevirtual 73, 3) := by decide +kernel
theorem dL_stateOf_5 : decode cL_stateOf 5 = .ok (.istore_n 2, 1) := by decide +kernel
theorem dL_stateOf_6 : decode cL_stateOf 6 = .ok (.goto 8, 3) := by decide +kernel
theorem dL_stateOf_9 : decode cL_stateOf 9 = .ok (.astore_n 3, 1) := by decide +kernel
theorem dL_stateOf_10 : decode cL_stateOf 10 = .ok (.sipush (-7100), 3) := by decide +kernel
theorem dL_stateOf_13 : decode cL_stateOf 13 = .ok (.ireturn, 1) := by decide +kernel
theorem dL_stateOf_14 : decode cL_stateOf 14 = .ok (.iload_n 2, 1) := by decide +kernel
theorem dL_stateOf_15 : decode cL_stateOf 15 = .ok (.ireturn, 1) := by decide +kernel
set_option maxRecDepth 20000 in
theorem ggL_counted_X0_counted : GoodIn wsL_counted wsX0_counted := goodIn_ca (goodIn_ca (goodIn_r _ [7, 8, 9, 10, 11, 12, 13, 6, 14, 15, 16, 17, 18, 19, 20, 21, 22, 23, 24, 25, 26, 27, 28, 29, 30, 31, 32, 33, 34, 35, 36, 37] (by decide +kernel) (by decide +kernel)) (goodIn_sub (fun _ h => List.mem_cons_of_mem _ (List.mem_append_left _ (List.mem_append_right _ h))) (by decide +kernel))) (goodIn_sub (fun _ h => List.mem_cons_of_mem _ (List.mem_append_right _ h)) (by decide +kernel))
set_option maxRecDepth 20000 in
theorem gL_counted_X0_counted : GoodIn wsL_counted (wsV RL 76 RX0 yX0_counted wsX0_counted) := goodIn_app (goodIn_of _ (by decide +kernel)) ggL_counted_X0_counted
theorem dL_counted_0 : decode cL_counted 0 = .ok (.aload_n 0, 1) := by decide +kernel
theorem dL_counted_1 : decode cL_counted 1 = .ok (.iload_n 1, 1) := by decide +kernel
theorem dL_counted_2 : decode cL_counted 2 = .ok (.iload_n 2, 1) := by decide +kernel
theorem dL_counted_3 : decode cL_counted 3 = .ok (.invokevirtual 76, 3) := by decide +kernel
theorem dL_counted_6 : decode cL_counted 6 = .ok (.istore_n 3, 1) := by decide +kernel
theorem dL_counted_7 : decode cL_counted 7 = .ok (.goto 15, 3) := by decide +kernel
theorem dL_counted_10 : decode cL_counted 10 = .ok (.astore 4, 2) := by decide +kernel
theorem dL_counted_12 : decode cL_counted 12 = .ok (.sipush (-7100), 3) := by decide +kernel
theorem dL_counted_15 : decode cL_counted 15 = .ok (.ireturn, 1) := by decide +kernel
theorem dL_counted_16 : decode cL_counted 16 = .ok (.astore 4, 2) := by decide +kernel
theorem dL_counted_18 : decode cL_counted 18 = .ok (.sipush (-7200), 3) := by decide +kernel
theorem dL_counted_21 : decode cL_counted 21 = .ok (.ireturn, 1) := by decide +kernel
theorem dL_counted_22 : decode cL_counted 22 = .ok (.iload_n 3, 1) := by decide +kernel
theorem dL_counted_23 : decode cL_counted 23 = .ok (.ireturn, 1) := by decide +kernel
theorem dL_member_0 : decode cL_member 0 = .ok (.iconst 0, 1) := by decide +kernel
theorem dL_member_1 : decode cL_member 1 = .ok (.istore_n 3, 1) := by decide +kernel
theorem dL_member_2 : decode cL_member 2 = .ok (.iload_n 3, 1) := by decide +kernel
theorem dL_member_3 : decode cL_member 3 = .ok (.aload_n 1, 1) := by decide +kernel
theorem dL_member_4 : decode cL_member 4 = .ok (.iconst 0, 1) := by decide +kernel
theorem dL_member_5 : decode cL_member 5 = .ok (.iaload, 1) := by decide +kernel
theorem dL_member_6 : decode cL_member 6 = .ok (.if_icmp .ge 21, 3) := by decide +kernel
theorem dL_member_9 : decode cL_member 9 = .ok (.aload_n 0, 1) := by decide +kernel
theorem dL_member_10 : decode cL_member 10 = .ok (.iload_n 3, 1) := by decide +kernel
theorem dL_member_11 : decode cL_member 11 = .ok (.iaload, 1) := by decide +kernel
theorem dL_member_12 : decode cL_member 12 = .ok (.bipush 127, 2) := by decide +kernel
theorem dL_member_14 : decode cL_member 14 = .ok (.iand, 1) := by decide +kernel
theorem dL_member_15 : decode cL_member 15 = .ok (.iload_n 2, 1) := by decide +kernel
theorem dL_member_16 : decode cL_member 16 = .ok (.if_icmp .ne 5, 3) := by decide +kernel
theorem dL_member_19 : decode cL_member 19 = .ok (.iload_n 3, 1) := by decide +kernel
theorem dL_member_20 : decode cL_member 20 = .ok (.ireturn, 1) := by decide +kernel
theorem dL_member_21 : decode cL_member 21 = .ok (.iinc 3 1, 3) := by decide +kernel
theorem dL_member_24 : decode cL_member 24 = .ok (.goto (-22), 3) := by decide +kernel
theorem dL_member_27 : decode cL_member 27 = .ok (.iconst (-1), 1) := by decide +kernel
theorem dL_member_28 : decode cL_member 28 = .ok (.ireturn, 1) := by decide +kernel
theorem dL_range_0 : decode cL_range 0 = .ok (.iconst 0, 1) := by decide +kernel
theorem dL_range_1 : decode cL_range 1 = .ok (.istore_n 2, 1) := by decide +kernel
theorem dL_range_2 : decode cL_range 2 = .ok (.aload_n 0, 1) := by decide +kernel
theorem dL_range_3 : decode cL_range 3 = .ok (.iload_n 2, 1) := by decide +kernel
theorem dL_range_4 : decode cL_range 4 = .ok (.iaload, 1) := by decide +kernel
theorem dL_range_5 : decode cL_range 5 = .ok (.bipush 127, 2) := by decide +kernel
theorem dL_range_7 : decode cL_range 7 = .ok (.iand, 1) := by decide +kernel
theorem dL_range_8 : decode cL_range 8 = .ok (.iload_n 1, 1) := by decide +kernel
theorem dL_range_9 : decode cL_range 9 = .ok (.if_icmp .ge 9, 3) := by decide +kernel
theorem dL_range_12 : decode cL_range 12 = .ok (.iinc 2 1, 3) := by decide +kernel
theorem dL_range_15 : decode cL_range 15 = .ok (.goto (-13), 3) := by decide +kernel
theorem dL_range_18 : decode cL_range 18 = .ok (.iload_n 2, 1) := by decide +kernel
theorem dL_range_19 : decode cL_range 19 = .ok (.ireturn, 1) := by decide +kernel
theorem dL_first_0 : decode cL_first 0 = .ok (.iload_n 1, 1) := by decide +kernel
theorem dL_first_1 : decode cL_first 1 = .ok (.ifCond .ne 7, 3) := by decide +kernel
theorem dL_first_4 : decode cL_first 4 = .ok (.iconst 0, 1) := by decide +kernel
theorem dL_first_5 : decode cL_first 5 = .ok (.goto 13, 3) := by decide +kernel
theorem dL_first_8 : decode cL_first 8 = .ok (.aload_n 0, 1) := by decide +kernel
theorem dL_first_9 : decode cL_first 9 = .ok (.iload_n 1, 1) := by decide +kernel
theorem dL_first_10 : decode cL_first 10 = .ok (.iconst 1, 1) := by decide +kernel
theorem dL_first_11 : decode cL_first 11 = .ok (.isub, 1) := by decide +kernel
theorem dL_first_12 : decode cL_first 12 = .ok (.iaload, 1) := by decide +kernel
theorem dL_first_13 : decode cL_first 13 = .ok (.bipush 127, 2) := by decide +kernel
theorem dL_first_15 : decode cL_first 15 = .ok (.iand, 1) := by decide +kernel
theorem dL_first_16 : decode cL_first 16 = .ok (.iconst 1, 1) := by decide +kernel
theorem dL_first_17 : decode cL_first 17 = .ok (.iadd, 1) := by decide +kernel
theorem dL_first_18 : decode cL_first 18 = .ok (.ireturn, 1) := by decide +kernel
set_option maxRecDepth 20000 in
theorem ggL_ofRange_L_first : GoodIn wsL_ofRange wsL_first := goodIn_r _ [4] (by decide +kernel) (by decide +kernel)
set_option maxRecDepth 20000 in
theorem gL_ofRange_L_first : GoodIn wsL_ofRange (va_wsS RL 82 yL_first wsL_first) := goodIn_app (goodIn_of _ (by decide +kernel)) ggL_ofRange_L_first
theorem dL_ofRange_0 : decode cL_ofRange 0 = .ok (.iload 4, 2) := by decide +kernel
theorem dL_ofRange_2 : decode cL_ofRange 2 = .ok (.iconst 2, 1) := by decide +kernel
theorem dL_ofRange_3 : decode cL_ofRange 3 = .ok (.if_icmp .ne 9, 3) := by decide +kernel
theorem dL_ofRange_6 : decode cL_ofRange 6 = .ok (.sipush 1000, 3) := by decide +kernel
theorem dL_ofRange_9 : decode cL_ofRange 9 = .ok (.goto 4, 3) := by decide +kernel
theorem dL_ofRange_12 : decode cL_ofRange 12 = .ok (.iconst 0, 1) := by decide +kernel
theorem dL_ofRange_13 : decode cL_ofRange 13 = .ok (.istore 5, 2) := by decide +kernel
theorem dL_ofRange_15 : decode cL_ofRange 15 = .ok (.iconst 0, 1) := by decide +kernel
theorem dL_ofRange_16 : decode cL_ofRange 16 = .ok (.istore 6, 2) := by decide +kernel
theorem dL_ofRange_18 : decode cL_ofRange 18 = .ok (.iload 6, 2) := by decide +kernel
theorem dL_ofRange_20 : decode cL_ofRange 20 = .ok (.aload_n 2, 1) := by decide +kernel
theorem dL_ofRange_21 : decode cL_ofRange 21 = .ok (.iconst 0, 1) := by decide +kernel
theorem dL_ofRange_22 : decode cL_ofRange 22 = .ok (.iaload, 1) := by decide +kernel
theorem dL_ofRange_23 : decode cL_ofRange 23 = .ok (.if_icmp .ge 112, 3) := by decide +kernel
theorem dL_ofRange_26 : decode cL_ofRange 26 = .ok (.aload_n 0, 1) := by decide +kernel
theorem dL_ofRange_27 : decode cL_ofRange 27 = .ok (.iload 6, 2) := by decide +kernel
theorem dL_ofRange_29 : decode cL_ofRange 29 = .ok (.iaload, 1) := by decide +kernel
theorem dL_ofRange_30 : decode cL_ofRange 30 = .ok (.bipush 127, 2) := by decide +kernel
theorem dL_ofRange_32 : decode cL_ofRange 32 = .ok (.iand, 1) := by decide +kernel
theorem dL_ofRange_33 : decode cL_ofRange 33 = .ok (.istore 7, 2) := by decide +kernel
theorem dL_ofRange_35 : decode cL_ofRange 35 = .ok (.iload 7, 2) := by decide +kernel
theorem dL_ofRange_37 : decode cL_ofRange 37 = .ok (.aload_n 1, 1) := by decide +kernel
theorem dL_ofRange_38 : decode cL_ofRange 38 = .ok (.iload_n 3, 1) := by decide +kernel
theorem dL_ofRange_39 : decode cL_ofRange 39 = .ok (.invokestatic 82, 3) := by decide +kernel
theorem dL_ofRange_42 : decode cL_ofRange 42 = .ok (.if_icmp .lt 87, 3) := by decide +kernel
theorem dL_ofRange_45 : decode cL_ofRange 45 = .ok (.iload 7, 2) := by decide +kernel
theorem dL_ofRange_47 : decode cL_ofRange 47 = .ok (.aload_n 1, 1) := by decide +kernel
theorem dL_ofRange_48 : decode cL_ofRange 48 = .ok (.iload_n 3, 1) := by decide +kernel
theorem dL_ofRange_49 : decode cL_ofRange 49 = .ok (.iaload, 1) := by decide +kernel
theorem dL_ofRange_50 : decode cL_ofRange 50 = .ok (.bipush 127, 2) := by decide +kernel
theorem dL_ofRange_52 : decode cL_ofRange 52 = .ok (.iand, 1) := by decide +kernel
theorem dL_ofRange_53 : decode cL_ofRange 53 = .ok (.if_icmp .le 6, 3) := by decide +kernel
theorem dL_ofRange_56 : decode cL_ofRange 56 = .ok (.goto 73, 3) := by decide +kernel
theorem dL_ofRange_59 : decode cL_ofRange 59 = .ok (.aload_n 0, 1) := by decide +kernel
theorem dL_ofRange_60 : decode cL_ofRange 60 = .ok (.iload 6, 2) := by decide +kernel
theorem dL_ofRange_62 : decode cL_ofRange 62 = .ok (.iaload, 1) := by decide +kernel
theorem dL_ofRange_63 : decode cL_ofRange 63 = .ok (.bipush 13, 2) := by decide +kernel
theorem dL_ofRange_65 : decode cL_ofRange 65 = .ok (.ishr, 1) := by decide +kernel
theorem dL_ofRange_66 : decode cL_ofRange 66 = .ok (.iconst 1, 1) := by decide +kernel
theorem dL_ofRange_67 : decode cL_ofRange 67 = .ok (.iand, 1) := by decide +kernel
theorem dL_ofRange_68 : decode cL_ofRange 68 = .ok (.iconst 1, 1) := by decide +kernel
theorem dL_ofRange_69 : decode cL_ofRange 69 = .ok (.if_icmp .ne 7, 3) := by decide +kernel
theorem dL_ofRange_72 : decode cL_ofRange 72 = .ok (.iconst 1, 1) := by decide +kernel
theorem dL_ofRange_73 : decode cL_ofRange 73 = .ok (.goto 4, 3) := by decide +kernel
theorem dL_ofRange_76 : decode cL_ofRange 76 = .ok (.iconst 0, 1) := by decide +kernel
theorem dL_ofRange_77 : decode cL_ofRange 77 = .ok (.istore 8, 2) := by decide +kernel
theorem dL_ofRange_79 : decode cL_ofRange 79 = .ok (.iload 4, 2) := by decide +kernel
theorem dL_ofRange_81 : decode cL_ofRange 81 = .ok (.iconst 2, 1) := by decide +kernel
theorem dL_ofRange_82 : decode cL_ofRange 82 = .ok (.if_icmp .ne 27, 3) := by decide +kernel
theorem dL_ofRange_85 : decode cL_ofRange 85 = .ok (.iload 8, 2) := by decide +kernel
theorem dL_ofRange_87 : decode cL_ofRange 87 = .ok (.ifCond .ne 15, 3) := by decide +kernel
theorem dL_ofRange_90 : decode cL_ofRange 90 = .ok (.iload 7, 2) := by decide +kernel
theorem dL_ofRange_92 : decode cL_ofRange 92 = .ok (.iload 5, 2) := by decide +kernel
theorem dL_ofRange_94 : decode cL_ofRange 94 = .ok (.if_icmp .ge 8, 3) := by decide +kernel
theorem dL_ofRange_97 : decode cL_ofRange 97 = .ok (.iload 7, 2) := by decide +kernel
theorem dL_ofRange_99 : decode cL_ofRange 99 = .ok (.goto 5, 3) := by decide +kernel
theorem dL_ofRange_102 : decode cL_ofRange 102 = .ok (.iload 5, 2) := by decide +kernel
theorem dL_ofRange_104 : decode cL_ofRange 104 = .ok (.istore 5, 2) := by decide +kernel
theorem dL_ofRange_106 : decode cL_ofRange 106 = .ok (.goto 23, 3) := by decide +kernel
theorem dL_ofRange_109 : decode cL_ofRange 109 = .ok (.iload 5, 2) := by decide +kernel
theorem dL_ofRange_111 : decode cL_ofRange 111 = .ok (.iload 4, 2) := by decide +kernel
theorem dL_ofRange_113 : decode cL_ofRange 113 = .ok (.ifCond .eq 8, 3) := by decide +kernel
theorem dL_ofRange_116 : decode cL_ofRange 116 = .ok (.iload 8, 2) := by decide +kernel
theorem dL_ofRange_118 : decode cL_ofRange 118 = .ok (.ifCond .eq 7, 3) := by decide +kernel
theorem dL_ofRange_121 : decode cL_ofRange 121 = .ok (.iconst 1, 1) := by decide +kernel
theorem dL_ofRange_122 : decode cL_ofRange 122 = .ok (.goto 4, 3) := by decide +kernel
theorem dL_ofRange_125 : decode cL_ofRange 125 = .ok (.iconst 0, 1) := by decide +kernel
theorem dL_ofRange_126 : decode cL_ofRange 126 = .ok (.iadd, 1) := by decide +kernel
theorem dL_ofRange_127 : decode cL_ofRange 127 = .ok (.istore 5, 2) := by decide +kernel
theorem dL_ofRange_129 : decode cL_ofRange 129 = .ok (.iinc 6 1, 3) := by decide +kernel
theorem dL_ofRange_132 : decode cL_ofRange 132 = .ok (.goto (-114), 3) := by decide +kernel
theorem dL_ofRange_135 : decode cL_ofRange 135 = .ok (.iload 5, 2) := by decide +kernel
theorem dL_ofRange_137 : decode cL_ofRange 137 = .ok (.sipush 1000, 3) := by decide +kernel
theorem dL_ofRange_140 : decode cL_ofRange 140 = .ok (.if_icmp .ne 7, 3) := by decide +kernel
theorem dL_ofRange_143 : decode cL_ofRange 143 = .ok (.iconst (-1), 1) := by decide +kernel
theorem dL_ofRange_144 : decode cL_ofRange 144 = .ok (.goto 5, 3) := by decide +kernel
theorem dL_ofRange_147 : decode cL_ofRange 147 = .ok (.iload 5, 2) := by decide +kernel
theorem dL_ofRange_149 : decode cL_ofRange 149 = .ok (.ireturn, 1) := by decide +kernel
set_option maxRecDepth 20000 in
theorem ggL_writes_L_low : GoodIn wsL_writes wsL_low := goodIn_r _ [5] (by decide +kernel) (by decide +kernel)
set_option maxRecDepth 20000 in
theorem gL_writes_L_low : GoodIn wsL_writes (va_wsS RL 88 yL_low wsL_low) := goodIn_app (goodIn_of _ (by decide +kernel)) ggL_writes_L_low
set_option maxRecDepth 20000 in
theorem ggL_writes_L_member : GoodIn wsL_writes wsL_member := goodIn_r _ [8] (by decide +kernel) (by decide +kernel)
set_option maxRecDepth 20000 in
theorem gL_writes_L_member : GoodIn wsL_writes (va_wsS RL 91 yL_member wsL_member) := goodIn_app (goodIn_of _ (by decide +kernel)) ggL_writes_L_member
set_option maxRecDepth 20000 in
theorem ggL_writes_L_join : GoodIn wsL_writes wsL_join := goodIn_ca (goodIn_ca (goodIn_ca (goodIn_r _ [11, 12, 13, 14, 15, 16, 17, 18, 19, 20, 21, 22, 23, 24, 25, 26, 27, 28, 29, 30, 31, 32, 33, 34, 35, 36, 37, 38, 39, 40, 41, 42, 43, 44, 45, 46, 47, 48, 49, 50, 51, 52, 53, 54, 55, 56, 57, 58, 59, 60, 61, 62, 63, 64, 65, 66, 67, 68, 69, 70, 71, 72, 73, 74, 75, 76, 77, 78, 79, 80, 81, 82, 83, 102, 103, 104, 105, 106, 107, 108, 109, 110, 111, 112, 113, 114, 115, 116, 117] (by decide +kernel) (by decide +kernel)) (goodIn_sub (fun _ h => List.mem_cons_of_mem _ (List.mem_append_left _ (List.mem_append_left _ (List.mem_append_right _ h)))) (by decide +kernel))) (goodIn_sub (fun _ h => List.mem_cons_of_mem _ (List.mem_append_left _ (List.mem_append_right _ h))) (by decide +kernel))) (goodIn_sub (fun _ h => List.mem_cons_of_mem _ (List.mem_append_right _ h)) (by decide +kernel))
set_option maxRecDepth 20000 in
theorem gL_writes_L_join : GoodIn wsL_writes (va_wsS RL 95 yL_join wsL_join) := goodIn_app (goodIn_of _ (by decide +kernel)) ggL_writes_L_join
set_option maxRecDepth 20000 in
theorem ggL_writes_L_change : GoodIn wsL_writes wsL_change := goodIn_ca (goodIn_ca (goodIn_ca (goodIn_r _ [86, 12, 13, 14, 87, 88, 89, 18, 90, 23, 24, 25, 26, 27, 28, 29, 30, 31, 32, 33, 34, 35, 91, 92, 93, 94, 20, 21, 36, 37, 38, 39, 40, 41, 42, 43, 44, 45, 46, 47, 48, 49, 50, 51, 52, 53, 54, 55, 56, 57, 58, 59, 60, 61, 62, 63, 64, 65, 66, 67, 68, 69, 70, 71, 72, 73, 74, 75, 76, 77, 78, 79, 80, 81, 82, 83, 102, 103, 104, 105, 106, 107, 108, 109, 110, 111, 112, 113, 114, 115, 116, 117] (by decide +kernel) (by decide +kernel)) (goodIn_sub (fun _ h => List.mem_cons_of_mem _ (List.mem_append_left _ (List.mem_append_right _ h))) (by decide +kernel))) (goodIn_sub (fun _ h => List.mem_cons_of_mem _ (List.mem_append_right _ h)) (by decide +kernel))) (goodIn_sub (fun _ h => List.mem_cons_of_mem _ (List.mem_append_left _ (List.mem_append_left _ (List.mem_append_right _ h)))) (by decide +kernel))
set_option maxRecDepth 20000 in
theorem gL_writes_L_change : GoodIn wsL_writes (va_wsS RL 98 yL_change wsL_change) := goodIn_app (goodIn_of _ (by decide +kernel)) ggL_writes_L_change
set_option maxRecDepth 20000 in
theorem ggL_writes_L_leave : GoodIn wsL_writes wsL_leave := goodIn_ca (goodIn_ca (goodIn_r _ [97, 12, 14, 98, 99, 100, 18, 101, 22, 23, 24, 25, 26, 27, 28, 29, 30, 91, 92, 93, 94, 20, 21, 36, 37, 38, 39, 40, 41, 42, 43, 44, 45, 46, 47, 48, 49, 50, 51, 52, 53, 54, 55, 56, 57, 58, 59, 60, 61, 62, 63, 64, 65, 66, 67, 68, 69, 70, 71, 72, 73, 74, 75, 76, 77, 78, 79, 80, 81, 82, 83, 102, 103, 104, 105, 106, 107, 108, 109, 110, 111, 112, 113, 114, 115, 116, 117] (by decide +kernel) (by decide +kernel)) (goodIn_sub (fun _ h => List.mem_cons_of_mem _ (List.mem_append_left _ (List.mem_append_right _ h))) (by decide +kernel))) (goodIn_sub (fun _ h => List.mem_cons_of_mem _ (List.mem_append_left _ (List.mem_append_left _ (List.mem_append_right _ h)))) (by decide +kernel))
set_option maxRecDepth 20000 in
theorem gL_writes_L_leave : GoodIn wsL_writes (va_wsS RL 100 yL_leave wsL_leave) := goodIn_app (goodIn_of _ (by decide +kernel)) ggL_writes_L_leave
theorem dL_writes_0 : decode cL_writes 0 = .ok (.iload_n 2, 1) := by decide +kernel
theorem dL_writes_1 : decode cL_writes 1 = .ok (.bipush 96, 2) := by decide +kernel
theorem dL_writes_3 : decode cL_writes 3 = .ok (.iand, 1) := by decide +kernel
theorem dL_writes_4 : decode cL_writes 4 = .ok (.ifCond .eq 10, 3) := by decide +kernel
theorem dL_writes_7 : decode cL_writes 7 = .ok (.aload 5, 2) := by decide +kernel
theorem dL_writes_9 : decode cL_writes 9 = .ok (.iconst 0, 1) := by decide +kernel
theorem dL_writes_10 : decode cL_writes 10 = .ok (.iaload, 1) := by decide +kernel
theorem dL_writes_11 : decode cL_writes 11 = .ok (.ifCond .ne 15, 3) := by decide +kernel
theorem dL_writes_14 : decode cL_writes 14 = .ok (.iload_n 2, 1) := by decide +kernel
theorem dL_writes_15 : decode cL_writes 15 = .ok (.bipush 7, 2) := by decide +kernel
theorem dL_writes_17 : decode cL_writes 17 = .ok (.ishr, 1) := by decide +kernel
theorem dL_writes_18 : decode cL_writes 18 = .ok (.bipush 100, 2) := by decide +kernel
theorem dL_writes_20 : decode cL_writes 20 = .ok (.invokestatic 88, 3) := by decide +kernel
theorem dL_writes_23 : decode cL_writes 23 = .ok (.goto 27, 3) := by decide +kernel
theorem dL_writes_26 : decode cL_writes 26 = .ok (.aload 4, 2) := by decide +kernel
theorem dL_writes_28 : decode cL_writes 28 = .ok (.iload_n 2, 1) := by decide +kernel
theorem dL_writes_29 : decode cL_writes 29 = .ok (.bipush 7, 2) := by decide +kernel
theorem dL_writes_31 : decode cL_writes 31 = .ok (.ishr, 1) := by decide +kernel
theorem dL_writes_32 : decode cL_writes 32 = .ok (.aload 5, 2) := by decide +kernel
theorem dL_writes_34 : decode cL_writes 34 = .ok (.iconst 0, 1) := by decide +kernel
theorem dL_writes_35 : decode cL_writes 35 = .ok (.iaload, 1) := by decide +kernel
theorem dL_writes_36 : decode cL_writes 36 = .ok (.invokestatic 88, 3) := by decide +kernel
theorem dL_writes_39 : decode cL_writes 39 = .ok (.iaload, 1) := by decide +kernel
theorem dL_writes_40 : decode cL_writes 40 = .ok (.bipush 127, 2) := by decide +kernel
theorem dL_writes_42 : decode cL_writes 42 = .ok (.iand, 1) := by decide +kernel
theorem dL_writes_43 : decode cL_writes 43 = .ok (.iload_n 2, 1) := by decide +kernel
theorem dL_writes_44 : decode cL_writes 44 = .ok (.bipush 20, 2) := by decide +kernel
theorem dL_writes_46 : decode cL_writes 46 = .ok (.ishr, 1) := by decide +kernel
theorem dL_writes_47 : decode cL_writes 47 = .ok (.iconst 1, 1) := by decide +kernel
theorem dL_writes_48 : decode cL_writes 48 = .ok (.iand, 1) := by decide +kernel
theorem dL_writes_49 : decode cL_writes 49 = .ok (.iadd, 1) := by decide +kernel
theorem dL_writes_50 : decode cL_writes 50 = .ok (.istore 6, 2) := by decide +kernel
theorem dL_writes_52 : decode cL_writes 52 = .ok (.iload 6, 2) := by decide +kernel
theorem dL_writes_54 : decode cL_writes 54 = .ok (.bipush 99, 2) := by decide +kernel
theorem dL_writes_56 : decode cL_writes 56 = .ok (.if_icmp .le 8, 3) := by decide +kernel
theorem dL_writes_59 : decode cL_writes 59 = .ok (.bipush 99, 2) := by decide +kernel
theorem dL_writes_61 : decode cL_writes 61 = .ok (.goto 5, 3) := by decide +kernel
theorem dL_writes_64 : decode cL_writes 64 = .ok (.iload 6, 2) := by decide +kernel
theorem dL_writes_66 : decode cL_writes 66 = .ok (.istore 6, 2) := by decide +kernel
theorem dL_writes_68 : decode cL_writes 68 = .ok (.iload_n 3, 1) := by decide +kernel
theorem dL_writes_69 : decode cL_writes 69 = .ok (.bipush 40, 2) := by decide +kernel
theorem dL_writes_71 : decode cL_writes 71 = .ok (.invokestatic 88, 3) := by decide +kernel
theorem dL_writes_74 : decode cL_writes 74 = .ok (.istore 7, 2) := by decide +kernel
theorem dL_writes_76 : decode cL_writes 76 = .ok (.aload 4, 2) := by decide +kernel
theorem dL_writes_78 : decode cL_writes 78 = .ok (.aload 5, 2) := by decide +kernel
theorem dL_writes_80 : decode cL_writes 80 = .ok (.iload 6, 2) := by decide +kernel
theorem dL_writes_82 : decode cL_writes 82 = .ok (.invokestatic 91, 3) := by decide +kernel
theorem dL_writes_85 : decode cL_writes 85 = .ok (.istore 8, 2) := by decide +kernel
theorem dL_writes_87 : decode cL_writes 87 = .ok (.iload_n 1, 1) := by decide +kernel
theorem dL_writes_88 : decode cL_writes 88 = .ok (.iconst 4, 1) := by decide +kernel
theorem dL_writes_89 : decode cL_writes 89 = .ok (.if_icmp .ge 141, 3) := by decide +kernel
theorem dL_writes_92 : decode cL_writes 92 = .ok (.aload_n 0, 1) := by decide +kernel
theorem dL_writes_93 : decode cL_writes 93 = .ok (.bipush 100, 2) := by decide +kernel
theorem dL_writes_95 : decode cL_writes 95 = .ok (.bipush 40, 2) := by decide +kernel
theorem dL_writes_97 : decode cL_writes 97 = .ok (.invokestatic 95, 3) := by decide +kernel
theorem dL_writes_100 : decode cL_writes 100 = .ok (.sipush (-7100), 3) := by decide +kernel
theorem dL_writes_103 : decode cL_writes 103 = .ok (.if_icmp .ne 42, 3) := by decide +kernel
theorem dL_writes_106 : decode cL_writes 106 = .ok (.aload_n 0, 1) := by decide +kernel
theorem dL_writes_107 : decode cL_writes 107 = .ok (.iconst (-1), 1) := by decide +kernel
theorem dL_writes_108 : decode cL_writes 108 = .ok (.iconst 0, 1) := by decide +kernel
theorem dL_writes_109 : decode cL_writes 109 = .ok (.invokestatic 95, 3) := by decide +kernel
theorem dL_writes_112 : decode cL_writes 112 = .ok (.sipush (-7100), 3) := by decide +kernel
theorem dL_writes_115 : decode cL_writes 115 = .ok (.if_icmp .ne 30, 3) := by decide +kernel
theorem dL_writes_118 : decode cL_writes 118 = .ok (.aload_n 0, 1) := by decide +kernel
theorem dL_writes_119 : decode cL_writes 119 = .ok (.iload 6, 2) := by decide +kernel
theorem dL_writes_121 : decode cL_writes 121 = .ok (.bipush 40, 2) := by decide +kernel
theorem dL_writes_123 : decode cL_writes 123 = .ok (.invokestatic 95, 3) := by decide +kernel
theorem dL_writes_126 : decode cL_writes 126 = .ok (.sipush (-7200), 3) := by decide +kernel
theorem dL_writes_129 : decode cL_writes 129 = .ok (.if_icmp .ne 16, 3) := by decide +kernel
theorem dL_writes_132 : decode cL_writes 132 = .ok (.aload_n 0, 1) := by decide +kernel
theorem dL_writes_133 : decode cL_writes 133 = .ok (.iload 6, 2) := by decide +kernel
theorem dL_writes_135 : decode cL_writes 135 = .ok (.iconst (-1), 1) := by decide +kernel
theorem dL_writes_136 : decode cL_writes 136 = .ok (.invokestatic 95, 3) := by decide +kernel
theorem dL_writes_139 : decode cL_writes 139 = .ok (.sipush (-7200), 3) := by decide +kernel
theorem dL_writes_142 : decode cL_writes 142 = .ok (.if_icmp .eq 5, 3) := by decide +kernel
theorem dL_writes_145 : decode cL_writes 145 = .ok (.iconst 0, 1) := by decide +kernel
theorem dL_writes_146 : decode cL_writes 146 = .ok (.ireturn, 1) := by decide +kernel
theorem dL_writes_147 : decode cL_writes 147 = .ok (.iload 8, 2) := by decide +kernel
theorem dL_writes_149 : decode cL_writes 149 = .ok (.ifCond .ge 12, 3) := by decide +kernel
theorem dL_writes_152 : decode cL_writes 152 = .ok (.aload 5, 2) := by decide +kernel
theorem dL_writes_154 : decode cL_writes 154 = .ok (.iconst 0, 1) := by decide +kernel
theorem dL_writes_155 : decode cL_writes 155 = .ok (.iaload, 1) := by decide +kernel
theorem dL_writes_156 : decode cL_writes 156 = .ok (.bipush 40, 2) := by decide +kernel
theorem dL_writes_158 : decode cL_writes 158 = .ok (.if_icmp .ne 23, 3) := by decide +kernel
theorem dL_writes_161 : decode cL_writes 161 = .ok (.aload_n 0, 1) := by decide +kernel
theorem dL_writes_162 : decode cL_writes 162 = .ok (.iload 6, 2) := by decide +kernel
theorem dL_writes_164 : decode cL_writes 164 = .ok (.iload 7, 2) := by decide +kernel
theorem dL_writes_166 : decode cL_writes 166 = .ok (.invokestatic 95, 3) := by decide +kernel
theorem dL_writes_169 : decode cL_writes 169 = .ok (.sipush (-7300), 3) := by decide +kernel
theorem dL_writes_172 : decode cL_writes 172 = .ok (.if_icmp .ne 7, 3) := by decide +kernel
theorem dL_writes_175 : decode cL_writes 175 = .ok (.iconst 1, 1) := by decide +kernel
theorem dL_writes_176 : decode cL_writes 176 = .ok (.goto 4, 3) := by decide +kernel
theorem dL_writes_179 : decode cL_writes 179 = .ok (.iconst 0, 1) := by decide +kernel
theorem dL_writes_180 : decode cL_writes 180 = .ok (.ireturn, 1) := by decide +kernel
theorem dL_writes_181 : decode cL_writes 181 = .ok (.aload 4, 2) := by decide +kernel
theorem dL_writes_183 : decode cL_writes 183 = .ok (.aload 5, 2) := by decide +kernel
theorem dL_writes_185 : decode cL_writes 185 = .ok (.iconst 0, 1) := by decide +kernel
theorem dL_writes_186 : decode cL_writes 186 = .ok (.iaload, 1) := by decide +kernel
theorem dL_writes_187 : decode cL_writes 187 = .ok (.iload 6, 2) := by decide +kernel
theorem dL_writes_189 : decode cL_writes 189 = .ok (.sipush 128, 3) := by decide +kernel
theorem dL_writes_192 : decode cL_writes 192 = .ok (.iload 7, 2) := by decide +kernel
theorem dL_writes_194 : decode cL_writes 194 = .ok (.imul, 1) := by decide +kernel
theorem dL_writes_195 : decode cL_writes 195 = .ok (.iadd, 1) := by decide +kernel
theorem dL_writes_196 : decode cL_writes 196 = .ok (.sipush 8192, 3) := by decide +kernel
theorem dL_writes_199 : decode cL_writes 199 = .ok (.iadd, 1) := by decide +kernel
theorem dL_writes_200 : decode cL_writes 200 = .ok (.iastore, 1) := by decide +kernel
theorem dL_writes_201 : decode cL_writes 201 = .ok (.aload 5, 2) := by decide +kernel
theorem dL_writes_203 : decode cL_writes 203 = .ok (.iconst 0, 1) := by decide +kernel
theorem dL_writes_204 : decode cL_writes 204 = .ok (.dup2, 1) := by decide +kernel
theorem dL_writes_205 : decode cL_writes 205 = .ok (.iaload, 1) := by decide +kernel
theorem dL_writes_206 : decode cL_writes 206 = .ok (.iconst 1, 1) := by decide +kernel
theorem dL_writes_207 : decode cL_writes 207 = .ok (.iadd, 1) := by decide +kernel
theorem dL_writes_208 : decode cL_writes 208 = .ok (.iastore, 1) := by decide +kernel
theorem dL_writes_209 : decode cL_writes 209 = .ok (.aload_n 0, 1) := by decide +kernel
theorem dL_writes_210 : decode cL_writes 210 = .ok (.iload 6, 2) := by decide +kernel
theorem dL_writes_212 : decode cL_writes 212 = .ok (.iload 7, 2) := by decide +kernel
theorem dL_writes_214 : decode cL_writes 214 = .ok (.invokestatic 95, 3) := by decide +kernel
theorem dL_writes_217 : decode cL_writes 217 = .ok (.aload 5, 2) := by decide +kernel
theorem dL_writes_219 : decode cL_writes 219 = .ok (.iconst 0, 1) := by decide +kernel
theorem dL_writes_220 : decode cL_writes 220 = .ok (.iaload, 1) := by decide +kernel
theorem dL_writes_221 : decode cL_writes 221 = .ok (.if_icmp .ne 7, 3) := by decide +kernel
theorem dL_writes_224 : decode cL_writes 224 = .ok (.iconst 1, 1) := by decide +kernel
theorem dL_writes_225 : decode cL_writes 225 = .ok (.goto 4, 3) := by decide +kernel
theorem dL_writes_228 : decode cL_writes 228 = .ok (.iconst 0, 1) := by decide +kernel
theorem dL_writes_229 : decode cL_writes 229 = .ok (.ireturn, 1) := by decide +kernel
theorem dL_writes_230 : decode cL_writes 230 = .ok (.iload_n 1, 1) := by decide +kernel
theorem dL_writes_231 : decode cL_writes 231 = .ok (.bipush 6, 2) := by decide +kernel
theorem dL_writes_233 : decode cL_writes 233 = .ok (.if_icmp .ge 121, 3) := by decide +kernel
theorem dL_writes_236 : decode cL_writes 236 = .ok (.aload_n 0, 1) := by decide +kernel
theorem dL_writes_237 : decode cL_writes 237 = .ok (.bipush 100, 2) := by decide +kernel
theorem dL_writes_239 : decode cL_writes 239 = .ok (.bipush 40, 2) := by decide +kernel
theorem dL_writes_241 : decode cL_writes 241 = .ok (.invokestatic 98, 3) := by decide +kernel
theorem dL_writes_244 : decode cL_writes 244 = .ok (.sipush (-7100), 3) := by decide +kernel
theorem dL_writes_247 : decode cL_writes 247 = .ok (.if_icmp .ne 30, 3) := by decide +kernel
theorem dL_writes_250 : decode cL_writes 250 = .ok (.aload_n 0, 1) := by decide +kernel
theorem dL_writes_251 : decode cL_writes 251 = .ok (.iload 6, 2) := by decide +kernel
theorem dL_writes_253 : decode cL_writes 253 = .ok (.bipush 40, 2) := by decide +kernel
theorem dL_writes_255 : decode cL_writes 255 = .ok (.invokestatic 98, 3) := by decide +kernel
theorem dL_writes_258 : decode cL_writes 258 = .ok (.sipush (-7200), 3) := by decide +kernel
theorem dL_writes_261 : decode cL_writes 261 = .ok (.if_icmp .ne 16, 3) := by decide +kernel
theorem dL_writes_264 : decode cL_writes 264 = .ok (.aload_n 0, 1) := by decide +kernel
theorem dL_writes_265 : decode cL_writes 265 = .ok (.iload 6, 2) := by decide +kernel
theorem dL_writes_267 : decode cL_writes 267 = .ok (.iconst (-1), 1) := by decide +kernel
theorem dL_writes_268 : decode cL_writes 268 = .ok (.invokestatic 98, 3) := by decide +kernel
theorem dL_writes_271 : decode cL_writes 271 = .ok (.sipush (-7200), 3) := by decide +kernel
theorem dL_writes_274 : decode cL_writes 274 = .ok (.if_icmp .eq 5, 3) := by decide +kernel
theorem dL_writes_277 : decode cL_writes 277 = .ok (.iconst 0, 1) := by decide +kernel
theorem dL_writes_278 : decode cL_writes 278 = .ok (.ireturn, 1) := by decide +kernel
theorem dL_writes_279 : decode cL_writes 279 = .ok (.iload 8, 2) := by decide +kernel
theorem dL_writes_281 : decode cL_writes 281 = .ok (.ifCond .ge 23, 3) := by decide +kernel
theorem dL_writes_284 : decode cL_writes 284 = .ok (.aload_n 0, 1) := by decide +kernel
theorem dL_writes_285 : decode cL_writes 285 = .ok (.iload 6, 2) := by decide +kernel
theorem dL_writes_287 : decode cL_writes 287 = .ok (.iload 7, 2) := by decide +kernel
theorem dL_writes_289 : decode cL_writes 289 = .ok (.invokestatic 98, 3) := by decide +kernel
theorem dL_writes_292 : decode cL_writes 292 = .ok (.sipush (-7300), 3) := by decide +kernel
theorem dL_writes_295 : decode cL_writes 295 = .ok (.if_icmp .ne 7, 3) := by decide +kernel
theorem dL_writes_298 : decode cL_writes 298 = .ok (.iconst 1, 1) := by decide +kernel
theorem dL_writes_299 : decode cL_writes 299 = .ok (.goto 4, 3) := by decide +kernel
theorem dL_writes_302 : decode cL_writes 302 = .ok (.iconst 0, 1) := by decide +kernel
theorem dL_writes_303 : decode cL_writes 303 = .ok (.ireturn, 1) := by decide +kernel
theorem dL_writes_304 : decode cL_writes 304 = .ok (.aload 4, 2) := by decide +kernel
theorem dL_writes_306 : decode cL_writes 306 = .ok (.iload 8, 2) := by decide +kernel
theorem dL_writes_308 : decode cL_writes 308 = .ok (.iaload, 1) := by decide +kernel
theorem dL_writes_309 : decode cL_writes 309 = .ok (.bipush 7, 2) := by decide +kernel
theorem dL_writes_311 : decode cL_writes 311 = .ok (.ishr, 1) := by decide +kernel
theorem dL_writes_312 : decode cL_writes 312 = .ok (.bipush 63, 2) := by decide +kernel
theorem dL_writes_314 : decode cL_writes 314 = .ok (.iand, 1) := by decide +kernel
theorem dL_writes_315 : decode cL_writes 315 = .ok (.istore 9, 2) := by decide +kernel
theorem dL_writes_317 : decode cL_writes 317 = .ok (.aload 4, 2) := by decide +kernel
theorem dL_writes_319 : decode cL_writes 319 = .ok (.iload 8, 2) := by decide +kernel
theorem dL_writes_321 : decode cL_writes 321 = .ok (.iload 6, 2) := by decide +kernel
theorem dL_writes_323 : decode cL_writes 323 = .ok (.sipush 128, 3) := by decide +kernel
theorem dL_writes_326 : decode cL_writes 326 = .ok (.iload 7, 2) := by decide +kernel
theorem dL_writes_328 : decode cL_writes 328 = .ok (.imul, 1) := by decide +kernel
theorem dL_writes_329 : decode cL_writes 329 = .ok (.iadd, 1) := by decide +kernel
theorem dL_writes_330 : decode cL_writes 330 = .ok (.sipush 8192, 3) := by decide +kernel
theorem dL_writes_333 : decode cL_writes 333 = .ok (.iadd, 1) := by decide +kernel
theorem dL_writes_334 : decode cL_writes 334 = .ok (.iastore, 1) := by decide +kernel
theorem dL_writes_335 : decode cL_writes 335 = .ok (.aload_n 0, 1) := by decide +kernel
theorem dL_writes_336 : decode cL_writes 336 = .ok (.iload 6, 2) := by decide +kernel
theorem dL_writes_338 : decode cL_writes 338 = .ok (.iload 7, 2) := by decide +kernel
theorem dL_writes_340 : decode cL_writes 340 = .ok (.invokestatic 98, 3) := by decide +kernel
theorem dL_writes_343 : decode cL_writes 343 = .ok (.iload 9, 2) := by decide +kernel
theorem dL_writes_345 : decode cL_writes 345 = .ok (.if_icmp .ne 7, 3) := by decide +kernel
theorem dL_writes_348 : decode cL_writes 348 = .ok (.iconst 1, 1) := by decide +kernel
theorem dL_writes_349 : decode cL_writes 349 = .ok (.goto 4, 3) := by decide +kernel
theorem dL_writes_352 : decode cL_writes 352 = .ok (.iconst 0, 1) := by decide +kernel
theorem dL_writes_353 : decode cL_writes 353 = .ok (.ireturn, 1) := by decide +kernel
theorem dL_writes_354 : decode cL_writes 354 = .ok (.aload_n 0, 1) := by decide +kernel
theorem dL_writes_355 : decode cL_writes 355 = .ok (.bipush 100, 2) := by decide +kernel
theorem dL_writes_357 : decode cL_writes 357 = .ok (.invokestatic 100, 3) := by decide +kernel
theorem dL_writes_360 : decode cL_writes 360 = .ok (.sipush (-7100), 3) := by decide +kernel
theorem dL_writes_363 : decode cL_writes 363 = .ok (.if_icmp .ne 15, 3) := by decide +kernel
theorem dL_writes_366 : decode cL_writes 366 = .ok (.aload_n 0, 1) := by decide +kernel
theorem dL_writes_367 : decode cL_writes 367 = .ok (.ldc 103, 2) := by decide +kernel
theorem dL_writes_369 : decode cL_writes 369 = .ok (.invokestatic 100, 3) := by decide +kernel
theorem dL_writes_372 : decode cL_writes 372 = .ok (.sipush (-7100), 3) := by decide +kernel
theorem dL_writes_375 : decode cL_writes 375 = .ok (.if_icmp .eq 5, 3) := by decide +kernel
theorem dL_writes_378 : decode cL_writes 378 = .ok (.iconst 0, 1) := by decide +kernel
theorem dL_writes_379 : decode cL_writes 379 = .ok (.ireturn, 1) := by decide +kernel
theorem dL_writes_380 : decode cL_writes 380 = .ok (.iload 8, 2) := by decide +kernel
theorem dL_writes_382 : decode cL_writes 382 = .ok (.ifCond .ge 21, 3) := by decide +kernel
theorem dL_writes_385 : decode cL_writes 385 = .ok (.aload_n 0, 1) := by decide +kernel
theorem dL_writes_386 : decode cL_writes 386 = .ok (.iload 6, 2) := by decide +kernel
theorem dL_writes_388 : decode cL_writes 388 = .ok (.invokestatic 100, 3) := by decide +kernel
theorem dL_writes_391 : decode cL_writes 391 = .ok (.sipush (-7300), 3) := by decide +kernel
theorem dL_writes_394 : decode cL_writes 394 = .ok (.if_icmp .ne 7, 3) := by decide +kernel
theorem dL_writes_397 : decode cL_writes 397 = .ok (.iconst 1, 1) := by decide +kernel
theorem dL_writes_398 : decode cL_writes 398 = .ok (.goto 4, 3) := by decide +kernel
theorem dL_writes_401 : decode cL_writes 401 = .ok (.iconst 0, 1) := by decide +kernel
theorem dL_writes_402 : decode cL_writes 402 = .ok (.ireturn, 1) := by decide +kernel
theorem dL_writes_403 : decode cL_writes 403 = .ok (.aload 4, 2) := by decide +kernel
theorem dL_writes_405 : decode cL_writes 405 = .ok (.iload 8, 2) := by decide +kernel
theorem dL_writes_407 : decode cL_writes 407 = .ok (.iaload, 1) := by decide +kernel
theorem dL_writes_408 : decode cL_writes 408 = .ok (.bipush 7, 2) := by decide +kernel
theorem dL_writes_410 : decode cL_writes 410 = .ok (.ishr, 1) := by decide +kernel
theorem dL_writes_411 : decode cL_writes 411 = .ok (.bipush 63, 2) := by decide +kernel
theorem dL_writes_413 : decode cL_writes 413 = .ok (.iand, 1) := by decide +kernel
theorem dL_writes_414 : decode cL_writes 414 = .ok (.istore 9, 2) := by decide +kernel
theorem dL_writes_416 : decode cL_writes 416 = .ok (.aload 5, 2) := by decide +kernel
theorem dL_writes_418 : decode cL_writes 418 = .ok (.iconst 0, 1) := by decide +kernel
theorem dL_writes_419 : decode cL_writes 419 = .ok (.dup2, 1) := by decide +kernel
theorem dL_writes_420 : decode cL_writes 420 = .ok (.iaload, 1) := by decide +kernel
theorem dL_writes_421 : decode cL_writes 421 = .ok (.iconst 1, 1) := by decide +kernel
theorem dL_writes_422 : decode cL_writes 422 = .ok (.isub, 1) := by decide +kernel
theorem dL_writes_423 : decode cL_writes 423 = .ok (.iastore, 1) := by decide +kernel
theorem dL_writes_424 : decode cL_writes 424 = .ok (.iload 8, 2) := by decide +kernel
theorem dL_writes_426 : decode cL_writes 426 = .ok (.istore 10, 2) := by decide +kernel
theorem dL_writes_428 : decode cL_writes 428 = .ok (.iload 10, 2) := by decide +kernel
theorem dL_writes_430 : decode cL_writes 430 = .ok (.aload 5, 2) := by decide +kernel
theorem dL_writes_432 : decode cL_writes 432 = .ok (.iconst 0, 1) := by decide +kernel
theorem dL_writes_433 : decode cL_writes 433 = .ok (.iaload, 1) := by decide +kernel
theorem dL_writes_434 : decode cL_writes 434 = .ok (.if_icmp .ge 21, 3) := by decide +kernel
theorem dL_writes_437 : decode cL_writes 437 = .ok (.aload 4, 2) := by decide +kernel
theorem dL_writes_439 : decode cL_writes 439 = .ok (.iload 10, 2) := by decide +kernel
theorem dL_writes_441 : decode cL_writes 441 = .ok (.aload 4, 2) := by decide +kernel
theorem dL_writes_443 : decode cL_writes 443 = .ok (.iload 10, 2) := by decide +kernel
theorem dL_writes_445 : decode cL_writes 445 = .ok (.iconst 1, 1) := by decide +kernel
theorem dL_writes_446 : decode cL_writes 446 = .ok (.iadd, 1) := by decide +kernel
theorem dL_writes_447 : decode cL_writes 447 = .ok (.iaload, 1) := by decide +kernel
theorem dL_writes_448 : decode cL_writes 448 = .ok (.iastore, 1) := by decide +kernel
theorem dL_writes_449 : decode cL_writes 449 = .ok (.iinc 10 1, 3) := by decide +kernel
theorem dL_writes_452 : decode cL_writes 452 = .ok (.goto (-24), 3) := by decide +kernel
theorem dL_writes_455 : decode cL_writes 455 = .ok (.aload_n 0, 1) := by decide +kernel
theorem dL_writes_456 : decode cL_writes 456 = .ok (.iload 6, 2) := by decide +kernel
theorem dL_writes_458 : decode cL_writes 458 = .ok (.invokestatic 100, 3) := by decide +kernel
theorem dL_writes_461 : decode cL_writes 461 = .ok (.iload 9, 2) := by decide +kernel
theorem dL_writes_463 : decode cL_writes 463 = .ok (.if_icmp .ne 7, 3) := by decide +kernel
theorem dL_writes_466 : decode cL_writes 466 = .ok (.iconst 1, 1) := by decide +kernel
theorem dL_writes_467 : decode cL_writes 467 = .ok (.goto 4, 3) := by decide +kernel
theorem dL_writes_470 : decode cL_writes 470 = .ok (.iconst 0, 1) := by decide +kernel
theorem dL_writes_471 : decode cL_writes 471 = .ok (.ireturn, 1) := by decide +kernel
theorem dL_rolled_0 : decode cL_rolled 0 = .ok (.iconst 0, 1) := by decide +kernel
theorem dL_rolled_1 : decode cL_rolled 1 = .ok (.istore_n 3, 1) := by decide +kernel
theorem dL_rolled_2 : decode cL_rolled 2 = .ok (.iload_n 3, 1) := by decide +kernel
theorem dL_rolled_3 : decode cL_rolled 3 = .ok (.aload_n 1, 1) := by decide +kernel
theorem dL_rolled_4 : decode cL_rolled 4 = .ok (.iconst 4, 1) := by decide +kernel
theorem dL_rolled_5 : decode cL_rolled 5 = .ok (.iaload, 1) := by decide +kernel
theorem dL_rolled_6 : decode cL_rolled 6 = .ok (.if_icmp .ge 33, 3) := by decide +kernel
theorem dL_rolled_9 : decode cL_rolled 9 = .ok (.aload_n 1, 1) := by decide +kernel
theorem dL_rolled_10 : decode cL_rolled 10 = .ok (.iconst 3, 1) := by decide +kernel
theorem dL_rolled_11 : decode cL_rolled 11 = .ok (.iaload, 1) := by decide +kernel
theorem dL_rolled_12 : decode cL_rolled 12 = .ok (.iconst 1, 1) := by decide +kernel
theorem dL_rolled_13 : decode cL_rolled 13 = .ok (.if_icmp .ne 26, 3) := by decide +kernel
theorem dL_rolled_16 : decode cL_rolled 16 = .ok (.aload_n 0, 1) := by decide +kernel
theorem dL_rolled_17 : decode cL_rolled 17 = .ok (.iload_n 3, 1) := by decide +kernel
theorem dL_rolled_18 : decode cL_rolled 18 = .ok (.iaload, 1) := by decide +kernel
theorem dL_rolled_19 : decode cL_rolled 19 = .ok (.bipush 127, 2) := by decide +kernel
theorem dL_rolled_21 : decode cL_rolled 21 = .ok (.iand, 1) := by decide +kernel
theorem dL_rolled_22 : decode cL_rolled 22 = .ok (.iload_n 2, 1) := by decide +kernel
theorem dL_rolled_23 : decode cL_rolled 23 = .ok (.if_icmp .ne 10, 3) := by decide +kernel
theorem dL_rolled_26 : decode cL_rolled 26 = .ok (.aload_n 0, 1) := by decide +kernel
theorem dL_rolled_27 : decode cL_rolled 27 = .ok (.iload_n 3, 1) := by decide +kernel
theorem dL_rolled_28 : decode cL_rolled 28 = .ok (.iaload, 1) := by decide +kernel
theorem dL_rolled_29 : decode cL_rolled 29 = .ok (.bipush 7, 2) := by decide +kernel
theorem dL_rolled_31 : decode cL_rolled 31 = .ok (.ishr, 1) := by decide +kernel
theorem dL_rolled_32 : decode cL_rolled 32 = .ok (.ireturn, 1) := by decide +kernel
theorem dL_rolled_33 : decode cL_rolled 33 = .ok (.iinc 3 1, 3) := by decide +kernel
theorem dL_rolled_36 : decode cL_rolled 36 = .ok (.goto (-34), 3) := by decide +kernel
theorem dL_rolled_39 : decode cL_rolled 39 = .ok (.iconst (-1), 1) := by decide +kernel
theorem dL_rolled_40 : decode cL_rolled 40 = .ok (.ireturn, 1) := by decide +kernel
set_option maxRecDepth 20000 in
theorem ggL_isTold_L_ofRange : GoodIn wsL_isTold wsL_ofRange := goodIn_r _ [6, 7, 8, 5, 9] (by decide +kernel) (by decide +kernel)
set_option maxRecDepth 20000 in
theorem gL_isTold_L_ofRange : GoodIn wsL_isTold (va_wsS RL 119 yL_ofRange wsL_ofRange) := goodIn_app (goodIn_of _ (by decide +kernel)) ggL_isTold_L_ofRange
set_option maxRecDepth 20000 in
theorem ggL_isTold_L_rows : GoodIn wsL_isTold wsL_rows := goodIn_ca (goodIn_r _ [12, 13, 14, 15, 16, 17, 18, 19, 20, 21, 22, 23, 24, 25, 26, 27, 28, 29, 30, 31, 32, 33, 34, 35, 36, 37, 38, 168, 169, 170, 171, 172, 173, 174, 175, 176, 177, 178, 179, 180, 181, 182, 183] (by decide +kernel) (by decide +kernel)) (goodIn_sub (fun _ h => List.mem_cons_of_mem _ (List.mem_append_left _ (List.mem_append_right _ h))) (by decide +kernel))
set_option maxRecDepth 20000 in
theorem gL_isTold_L_rows : GoodIn wsL_isTold (va_wsS RL 141 yL_rows wsL_rows) := goodIn_app (goodIn_of _ (by decide +kernel)) ggL_isTold_L_rows
set_option maxRecDepth 20000 in
theorem ggL_isTold_L_inDistrict : GoodIn wsL_isTold wsL_inDistrict := goodIn_ca (goodIn_r _ [41, 13, 42, 43, 44, 17, 45, 46, 47, 48, 22, 23, 49, 50, 51, 52, 53, 54, 55, 56, 57, 58, 59, 60, 61, 62, 63, 64, 65, 66, 67, 68, 69, 70, 71, 31, 32, 33, 34, 35, 24, 25, 26, 36, 37, 38, 72, 73, 74, 168, 169, 170, 171, 172, 173, 174, 175, 176, 177, 178, 179, 180, 181, 182, 183] (by decide +kernel) (by decide +kernel)) (goodIn_sub (fun _ h => List.mem_cons_of_mem _ (List.mem_append_left _ (List.mem_append_right _ h))) (by decide +kernel))
set_option maxRecDepth 20000 in
theorem gL_isTold_L_inDistrict : GoodIn wsL_isTold (va_wsS RL 143 yL_inDistrict wsL_inDistrict) := goodIn_app (goodIn_of _ (by decide +kernel)) ggL_isTold_L_inDistrict
set_option maxRecDepth 20000 in
theorem ggL_isTold_L_counted : GoodIn wsL_isTold wsL_counted := goodIn_ca (goodIn_ca (goodIn_r _ [77, 13, 78, 79, 80, 81, 17, 82, 83, 84, 85, 86, 46, 47, 48, 22, 23, 87, 88, 89, 90, 91, 168, 169, 170, 171, 172, 173, 174, 175, 176, 177, 178, 179, 180, 181, 182, 183] (by decide +kernel) (by decide +kernel)) (goodIn_sub (fun _ h => List.mem_cons_of_mem _ (List.mem_append_left _ (List.mem_append_right _ h))) (by decide +kernel))) (goodIn_sub (fun _ h => List.mem_cons_of_mem _ (List.mem_append_right _ h)) (by decide +kernel))
set_option maxRecDepth 20000 in
theorem gL_isTold_L_counted : GoodIn wsL_isTold (va_wsS RL 145 yL_counted wsL_counted) := goodIn_app (goodIn_of _ (by decide +kernel)) ggL_isTold_L_counted
set_option maxRecDepth 20000 in
theorem ggL_isTold_L_shardOf : GoodIn wsL_isTold wsL_shardOf := goodIn_ca (goodIn_r _ [94, 13, 95, 96, 97, 17, 98, 71, 99, 100, 101, 102, 22, 23, 63, 64, 65, 66, 57, 168, 169, 170, 171, 172, 173, 174, 175, 176, 177, 178, 179, 180, 181, 182, 183] (by decide +kernel) (by decide +kernel)) (goodIn_sub (fun _ h => List.mem_cons_of_mem _ (List.mem_append_left _ (List.mem_append_right _ h))) (by decide +kernel))
set_option maxRecDepth 20000 in
theorem gL_isTold_L_shardOf : GoodIn wsL_isTold (va_wsS RL 117 yL_shardOf wsL_shardOf) := goodIn_app (goodIn_of _ (by decide +kernel)) ggL_isTold_L_shardOf
set_option maxRecDepth 20000 in
theorem ggL_isTold_L_low : GoodIn wsL_isTold wsL_low := goodIn_r _ [105] (by decide +kernel) (by decide +kernel)
set_option maxRecDepth 20000 in
theorem gL_isTold_L_low : GoodIn wsL_isTold (va_wsS RL 88 yL_low wsL_low) := goodIn_app (goodIn_of _ (by decide +kernel)) ggL_isTold_L_low
set_option maxRecDepth 20000 in
theorem ggL_isTold_L_member : GoodIn wsL_isTold wsL_member := goodIn_r _ [108] (by decide +kernel) (by decide +kernel)
set_option maxRecDepth 20000 in
theorem gL_isTold_L_member : GoodIn wsL_isTold (va_wsS RL 91 yL_member wsL_member) := goodIn_app (goodIn_of _ (by decide +kernel)) ggL_isTold_L_member
set_option maxRecDepth 20000 in
theorem ggL_isTold_L_address : GoodIn wsL_isTold wsL_address := goodIn_ca (goodIn_r _ [111, 13, 112, 113, 114, 17, 115, 116, 117, 118, 22, 23, 36, 37, 38, 49, 50, 51, 52, 53, 54, 55, 56, 57, 58, 59, 60, 61, 62, 63, 64, 65, 66, 67, 68, 69, 70, 71, 31, 32, 33, 34, 35, 24, 25, 26, 168, 169, 170, 171, 172, 173, 174, 175, 176, 177, 178, 179, 180, 181, 182, 183] (by decide +kernel) (by decide +kernel)) (goodIn_sub (fun _ h => List.mem_cons_of_mem _ (List.mem_append_left _ (List.mem_append_right _ h))) (by decide +kernel))
set_option maxRecDepth 20000 in
theorem gL_isTold_L_address : GoodIn wsL_isTold (va_wsS RL 147 yL_address wsL_address) := goodIn_app (goodIn_of _ (by decide +kernel)) ggL_isTold_L_address
set_option maxRecDepth 20000 in
theorem ggL_isTold_L_onRoll : GoodIn wsL_isTold wsL_onRoll := goodIn_ca (goodIn_r _ [121, 13, 122, 123, 124, 17, 125, 126, 127, 116, 117, 118, 22, 23, 36, 37, 38, 168, 169, 170, 171, 172, 173, 174, 175, 176, 177, 178, 179, 180, 181, 182, 183] (by decide +kernel) (by decide +kernel)) (goodIn_sub (fun _ h => List.mem_cons_of_mem _ (List.mem_append_left _ (List.mem_append_right _ h))) (by decide +kernel))
set_option maxRecDepth 20000 in
theorem gL_isTold_L_onRoll : GoodIn wsL_isTold (va_wsS RL 149 yL_onRoll wsL_onRoll) := goodIn_app (goodIn_of _ (by decide +kernel)) ggL_isTold_L_onRoll
set_option maxRecDepth 20000 in
theorem ggL_isTold_L_rolled : GoodIn wsL_isTold wsL_rolled := goodIn_r _ [130] (by decide +kernel) (by decide +kernel)
set_option maxRecDepth 20000 in
theorem gL_isTold_L_rolled : GoodIn wsL_isTold (va_wsS RL 128 yL_rolled wsL_rolled) := goodIn_app (goodIn_of _ (by decide +kernel)) ggL_isTold_L_rolled
set_option maxRecDepth 20000 in
theorem ggL_isTold_L_rangeOf : GoodIn wsL_isTold wsL_rangeOf := goodIn_ca (goodIn_r _ [133, 13, 134, 135, 136, 17, 137, 116, 117, 118, 22, 23, 36, 37, 38, 53, 54, 55, 56, 57, 58, 59, 60, 61, 62, 63, 64, 65, 66, 168, 169, 170, 171, 172, 173, 174, 175, 176, 177, 178, 179, 180, 181, 182, 183] (by decide +kernel) (by decide +kernel)) (goodIn_sub (fun _ h => List.mem_cons_of_mem _ (List.mem_append_left _ (List.mem_append_right _ h))) (by decide +kernel))
set_option maxRecDepth 20000 in
theorem gL_isTold_L_rangeOf : GoodIn wsL_isTold (va_wsS RL 151 yL_rangeOf wsL_rangeOf) := goodIn_app (goodIn_of _ (by decide +kernel)) ggL_isTold_L_rangeOf
set_option maxRecDepth 20000 in
theorem ggL_isTold_L_range : GoodIn wsL_isTold wsL_range := goodIn_r _ [140] (by decide +kernel) (by decide +kernel)
set_option maxRecDepth 20000 in
theorem gL_isTold_L_range : GoodIn wsL_isTold (va_wsS RL 104 yL_range wsL_range) := goodIn_app (goodIn_of _ (by decide +kernel)) ggL_isTold_L_range
set_option maxRecDepth 20000 in
theorem ggL_isTold_L_stateOf : GoodIn wsL_isTold wsL_stateOf := goodIn_ca (goodIn_r _ [143, 13, 144, 145, 146, 17, 147, 84, 148, 149, 150, 151, 22, 23, 152, 153, 154, 155, 83, 168, 169, 170, 171, 172, 173, 174, 175, 176, 177, 178, 179, 180, 181, 182, 183] (by decide +kernel) (by decide +kernel)) (goodIn_sub (fun _ h => List.mem_cons_of_mem _ (List.mem_append_left _ (List.mem_append_right _ h))) (by decide +kernel))
set_option maxRecDepth 20000 in
theorem gL_isTold_L_stateOf : GoodIn wsL_isTold (va_wsS RL 137 yL_stateOf wsL_stateOf) := goodIn_app (goodIn_of _ (by decide +kernel)) ggL_isTold_L_stateOf
set_option maxRecDepth 20000 in
theorem ggL_isTold_L_sentTo : GoodIn wsL_isTold wsL_sentTo := goodIn_ca (goodIn_r _ [158, 13, 159, 160, 161, 17, 162, 163, 148, 149, 150, 151, 22, 23, 152, 153, 154, 155, 83, 168, 169, 170, 171, 172, 173, 174, 175, 176, 177, 178, 179, 180, 181, 182, 183] (by decide +kernel) (by decide +kernel)) (goodIn_sub (fun _ h => List.mem_cons_of_mem _ (List.mem_append_left _ (List.mem_append_right _ h))) (by decide +kernel))
set_option maxRecDepth 20000 in
theorem gL_isTold_L_sentTo : GoodIn wsL_isTold (va_wsS RL 139 yL_sentTo wsL_sentTo) := goodIn_app (goodIn_of _ (by decide +kernel)) ggL_isTold_L_sentTo
set_option maxRecDepth 20000 in
theorem ggL_isTold_X0_ranges : GoodIn wsL_isTold wsX0_ranges := goodIn_r _ [167, 57, 168, 169, 170, 171, 172, 173, 174, 175, 176, 177, 178, 179, 180, 181, 182, 183] (by decide +kernel) (by decide +kernel)
set_option maxRecDepth 20000 in
theorem gL_isTold_X0_ranges : GoodIn wsL_isTold (wsV RL 153 RX0 yX0_ranges wsX0_ranges) := goodIn_app (goodIn_of _ (by decide +kernel)) ggL_isTold_X0_ranges
theorem dL_isTold_0 : decode cL_isTold 0 = .ok (.iconst 0, 1) := by decide +kernel
theorem dL_isTold_1 : decode cL_isTold 1 = .ok (.istore 8, 2) := by decide +kernel
theorem dL_isTold_3 : decode cL_isTold 3 = .ok (.iload 8, 2) := by decide +kernel
theorem dL_isTold_5 : decode cL_isTold 5 = .ok (.iconst 4, 1) := by decide +kernel
theorem dL_isTold_6 : decode cL_isTold 6 = .ok (.if_icmp .ge 212, 3) := by decide +kernel
theorem dL_isTold_9 : decode cL_isTold 9 = .ok (.iconst 0, 1) := by decide +kernel
theorem dL_isTold_10 : decode cL_isTold 10 = .ok (.istore 9, 2) := by decide +kernel
theorem dL_isTold_12 : decode cL_isTold 12 = .ok (.iconst 0, 1) := by decide +kernel
theorem dL_isTold_13 : decode cL_isTold 13 = .ok (.istore 10, 2) := by decide +kernel
theorem dL_isTold_15 : decode cL_isTold 15 = .ok (.iconst 0, 1) := by decide +kernel
theorem dL_isTold_16 : decode cL_isTold 16 = .ok (.istore 11, 2) := by decide +kernel
theorem dL_isTold_18 : decode cL_isTold 18 = .ok (.iload 11, 2) := by decide +kernel
theorem dL_isTold_20 : decode cL_isTold 20 = .ok (.aload 7, 2) := by decide +kernel
theorem dL_isTold_22 : decode cL_isTold 22 = .ok (.iconst 1, 1) := by decide +kernel
theorem dL_isTold_23 : decode cL_isTold 23 = .ok (.iaload, 1) := by decide +kernel
theorem dL_isTold_24 : decode cL_isTold 24 = .ok (.if_icmp .ge 80, 3) := by decide +kernel
theorem dL_isTold_27 : decode cL_isTold 27 = .ok (.iload 9, 2) := by decide +kernel
theorem dL_isTold_29 : decode cL_isTold 29 = .ok (.aload 4, 2) := by decide +kernel
theorem dL_isTold_31 : decode cL_isTold 31 = .ok (.iload 11, 2) := by decide +kernel
theorem dL_isTold_33 : decode cL_isTold 33 = .ok (.iaload, 1) := by decide +kernel
theorem dL_isTold_34 : decode cL_isTold 34 = .ok (.bipush 7, 2) := by decide +kernel
theorem dL_isTold_36 : decode cL_isTold 36 = .ok (.ishr, 1) := by decide +kernel
theorem dL_isTold_37 : decode cL_isTold 37 = .ok (.bipush 7, 2) := by decide +kernel
theorem dL_isTold_39 : decode cL_isTold 39 = .ok (.iand, 1) := by decide +kernel
theorem dL_isTold_40 : decode cL_isTold 40 = .ok (.iload 8, 2) := by decide +kernel
theorem dL_isTold_42 : decode cL_isTold 42 = .ok (.if_icmp .ne 17, 3) := by decide +kernel
theorem dL_isTold_45 : decode cL_isTold 45 = .ok (.aload_n 2, 1) := by decide +kernel
theorem dL_isTold_46 : decode cL_isTold 46 = .ok (.aload 4, 2) := by decide +kernel
theorem dL_isTold_48 : decode cL_isTold 48 = .ok (.aload 7, 2) := by decide +kernel
theorem dL_isTold_50 : decode cL_isTold 50 = .ok (.iload 11, 2) := by decide +kernel
theorem dL_isTold_52 : decode cL_isTold 52 = .ok (.iconst 0, 1) := by decide +kernel
theorem dL_isTold_53 : decode cL_isTold 53 = .ok (.invokestatic 119, 3) := by decide +kernel
theorem dL_isTold_56 : decode cL_isTold 56 = .ok (.goto 4, 3) := by decide +kernel
theorem dL_isTold_59 : decode cL_isTold 59 = .ok (.iconst 0, 1) := by decide +kernel
theorem dL_isTold_60 : decode cL_isTold 60 = .ok (.iadd, 1) := by decide +kernel
theorem dL_isTold_61 : decode cL_isTold 61 = .ok (.istore 9, 2) := by decide +kernel
theorem dL_isTold_63 : decode cL_isTold 63 = .ok (.iload 9, 2) := by decide +kernel
theorem dL_isTold_65 : decode cL_isTold 65 = .ok (.aload 4, 2) := by decide +kernel
theorem dL_isTold_67 : decode cL_isTold 67 = .ok (.iload 11, 2) := by decide +kernel
theorem dL_isTold_69 : decode cL_isTold 69 = .ok (.iaload, 1) := by decide +kernel
theorem dL_isTold_70 : decode cL_isTold 70 = .ok (.bipush 10, 2) := by decide +kernel
theorem dL_isTold_72 : decode cL_isTold 72 = .ok (.ishr, 1) := by decide +kernel
theorem dL_isTold_73 : decode cL_isTold 73 = .ok (.iload 8, 2) := by decide +kernel
theorem dL_isTold_75 : decode cL_isTold 75 = .ok (.iconst 1, 1) := by decide +kernel
theorem dL_isTold_76 : decode cL_isTold 76 = .ok (.iadd, 1) := by decide +kernel
theorem dL_isTold_77 : decode cL_isTold 77 = .ok (.if_icmp .ne 17, 3) := by decide +kernel
theorem dL_isTold_80 : decode cL_isTold 80 = .ok (.aload_n 2, 1) := by decide +kernel
theorem dL_isTold_81 : decode cL_isTold 81 = .ok (.aload 4, 2) := by decide +kernel
theorem dL_isTold_83 : decode cL_isTold 83 = .ok (.aload 7, 2) := by decide +kernel
theorem dL_isTold_85 : decode cL_isTold 85 = .ok (.iload 11, 2) := by decide +kernel
theorem dL_isTold_87 : decode cL_isTold 87 = .ok (.iconst 1, 1) := by decide +kernel
theorem dL_isTold_88 : decode cL_isTold 88 = .ok (.invokestatic 119, 3) := by decide +kernel
theorem dL_isTold_91 : decode cL_isTold 91 = .ok (.goto 4, 3) := by decide +kernel
theorem dL_isTold_94 : decode cL_isTold 94 = .ok (.iconst 0, 1) := by decide +kernel
theorem dL_isTold_95 : decode cL_isTold 95 = .ok (.iadd, 1) := by decide +kernel
theorem dL_isTold_96 : decode cL_isTold 96 = .ok (.istore 9, 2) := by decide +kernel
theorem dL_isTold_98 : decode cL_isTold 98 = .ok (.iinc 11 1, 3) := by decide +kernel
theorem dL_isTold_101 : decode cL_isTold 101 = .ok (.goto (-83), 3) := by decide +kernel
theorem dL_isTold_104 : decode cL_isTold 104 = .ok (.iconst 0, 1) := by decide +kernel
theorem dL_isTold_105 : decode cL_isTold 105 = .ok (.istore 11, 2) := by decide +kernel
theorem dL_isTold_107 : decode cL_isTold 107 = .ok (.iload 11, 2) := by decide +kernel
theorem dL_isTold_109 : decode cL_isTold 109 = .ok (.aload 7, 2) := by decide +kernel
theorem dL_isTold_111 : decode cL_isTold 111 = .ok (.iconst 0, 1) := by decide +kernel
theorem dL_isTold_112 : decode cL_isTold 112 = .ok (.iaload, 1) := by decide +kernel
theorem dL_isTold_113 : decode cL_isTold 113 = .ok (.if_icmp .ge 37, 3) := by decide +kernel
theorem dL_isTold_116 : decode cL_isTold 116 = .ok (.iload 10, 2) := by decide +kernel
theorem dL_isTold_118 : decode cL_isTold 118 = .ok (.aload_n 2, 1) := by decide +kernel
theorem dL_isTold_119 : decode cL_isTold 119 = .ok (.iload 11, 2) := by decide +kernel
theorem dL_isTold_121 : decode cL_isTold 121 = .ok (.iaload, 1) := by decide +kernel
theorem dL_isTold_122 : decode cL_isTold 122 = .ok (.bipush 7, 2) := by decide +kernel
theorem dL_isTold_124 : decode cL_isTold 124 = .ok (.ishr, 1) := by decide +kernel
theorem dL_isTold_125 : decode cL_isTold 125 = .ok (.bipush 63, 2) := by decide +kernel
theorem dL_isTold_127 : decode cL_isTold 127 = .ok (.iand, 1) := by decide +kernel
theorem dL_isTold_128 : decode cL_isTold 128 = .ok (.bipush 10, 2) := by decide +kernel
theorem dL_isTold_130 : decode cL_isTold 130 = .ok (.idiv, 1) := by decide +kernel
theorem dL_isTold_131 : decode cL_isTold 131 = .ok (.iload 8, 2) := by decide +kernel
theorem dL_isTold_133 : decode cL_isTold 133 = .ok (.if_icmp .ne 7, 3) := by decide +kernel
theorem dL_isTold_136 : decode cL_isTold 136 = .ok (.iconst 1, 1) := by decide +kernel
theorem dL_isTold_137 : decode cL_isTold 137 = .ok (.goto 4, 3) := by decide +kernel
theorem dL_isTold_140 : decode cL_isTold 140 = .ok (.iconst 0, 1) := by decide +kernel
theorem dL_isTold_141 : decode cL_isTold 141 = .ok (.iadd, 1) := by decide +kernel
theorem dL_isTold_142 : decode cL_isTold 142 = .ok (.istore 10, 2) := by decide +kernel
theorem dL_isTold_144 : decode cL_isTold 144 = .ok (.iinc 11 1, 3) := by decide +kernel
theorem dL_isTold_147 : decode cL_isTold 147 = .ok (.goto (-40), 3) := by decide +kernel
theorem dL_isTold_150 : decode cL_isTold 150 = .ok (.aload_n 0, 1) := by decide +kernel
theorem dL_isTold_151 : decode cL_isTold 151 = .ok (.iload 8, 2) := by decide +kernel
theorem dL_isTold_153 : decode cL_isTold 153 = .ok (.invokestatic 141, 3) := by decide +kernel
theorem dL_isTold_156 : decode cL_isTold 156 = .ok (.iload 9, 2) := by decide +kernel
theorem dL_isTold_158 : decode cL_isTold 158 = .ok (.if_icmp .ne 14, 3) := by decide +kernel
theorem dL_isTold_161 : decode cL_isTold 161 = .ok (.aload_n 0, 1) := by decide +kernel
theorem dL_isTold_162 : decode cL_isTold 162 = .ok (.iload 8, 2) := by decide +kernel
theorem dL_isTold_164 : decode cL_isTold 164 = .ok (.invokestatic 143, 3) := by decide +kernel
theorem dL_isTold_167 : decode cL_isTold 167 = .ok (.iload 10, 2) := by decide +kernel
theorem dL_isTold_169 : decode cL_isTold 169 = .ok (.if_icmp .eq 5, 3) := by decide +kernel
theorem dL_isTold_172 : decode cL_isTold 172 = .ok (.iconst 0, 1) := by decide +kernel
theorem dL_isTold_173 : decode cL_isTold 173 = .ok (.ireturn, 1) := by decide +kernel
theorem dL_isTold_174 : decode cL_isTold 174 = .ok (.iconst 0, 1) := by decide +kernel
theorem dL_isTold_175 : decode cL_isTold 175 = .ok (.istore 11, 2) := by decide +kernel
theorem dL_isTold_177 : decode cL_isTold 177 = .ok (.iload 11, 2) := by decide +kernel
theorem dL_isTold_179 : decode cL_isTold 179 = .ok (.iconst 3, 1) := by decide +kernel
theorem dL_isTold_180 : decode cL_isTold 180 = .ok (.if_icmp .ge 32, 3) := by decide +kernel
theorem dL_isTold_183 : decode cL_isTold 183 = .ok (.aload_n 0, 1) := by decide +kernel
theorem dL_isTold_184 : decode cL_isTold 184 = .ok (.iload 8, 2) := by decide +kernel
theorem dL_isTold_186 : decode cL_isTold 186 = .ok (.iload 11, 2) := by decide +kernel
theorem dL_isTold_188 : decode cL_isTold 188 = .ok (.invokestatic 145, 3) := by decide +kernel
theorem dL_isTold_191 : decode cL_isTold 191 = .ok (.aload 6, 2) := by decide +kernel
theorem dL_isTold_193 : decode cL_isTold 193 = .ok (.iconst 4, 1) := by decide +kernel
theorem dL_isTold_194 : decode cL_isTold 194 = .ok (.iload 11, 2) := by decide +kernel
theorem dL_isTold_196 : decode cL_isTold 196 = .ok (.imul, 1) := by decide +kernel
theorem dL_isTold_197 : decode cL_isTold 197 = .ok (.iload 8, 2) := by decide +kernel
theorem dL_isTold_199 : decode cL_isTold 199 = .ok (.iadd, 1) := by decide +kernel
theorem dL_isTold_200 : decode cL_isTold 200 = .ok (.iaload, 1) := by decide +kernel
theorem dL_isTold_201 : decode cL_isTold 201 = .ok (.if_icmp .eq 5, 3) := by decide +kernel
theorem dL_isTold_204 : decode cL_isTold 204 = .ok (.iconst 0, 1) := by decide +kernel
theorem dL_isTold_205 : decode cL_isTold 205 = .ok (.ireturn, 1) := by decide +kernel
theorem dL_isTold_206 : decode cL_isTold 206 = .ok (.iinc 11 1, 3) := by decide +kernel
theorem dL_isTold_209 : decode cL_isTold 209 = .ok (.goto (-32), 3) := by decide +kernel
theorem dL_isTold_212 : decode cL_isTold 212 = .ok (.iinc 8 1, 3) := by decide +kernel
theorem dL_isTold_215 : decode cL_isTold 215 = .ok (.goto (-212), 3) := by decide +kernel
theorem dL_isTold_218 : decode cL_isTold 218 = .ok (.iconst 0, 1) := by decide +kernel
theorem dL_isTold_219 : decode cL_isTold 219 = .ok (.istore 8, 2) := by decide +kernel
theorem dL_isTold_221 : decode cL_isTold 221 = .ok (.iload 8, 2) := by decide +kernel
theorem dL_isTold_223 : decode cL_isTold 223 = .ok (.aload 7, 2) := by decide +kernel
theorem dL_isTold_225 : decode cL_isTold 225 = .ok (.iconst 1, 1) := by decide +kernel
theorem dL_isTold_226 : decode cL_isTold 226 = .ok (.iaload, 1) := by decide +kernel
theorem dL_isTold_227 : decode cL_isTold 227 = .ok (.if_icmp .ge 31, 3) := by decide +kernel
theorem dL_isTold_230 : decode cL_isTold 230 = .ok (.aload_n 0, 1) := by decide +kernel
theorem dL_isTold_231 : decode cL_isTold 231 = .ok (.iload 8, 2) := by decide +kernel
theorem dL_isTold_233 : decode cL_isTold 233 = .ok (.invokestatic 117, 3) := by decide +kernel
theorem dL_isTold_236 : decode cL_isTold 236 = .ok (.aload 4, 2) := by decide +kernel
theorem dL_isTold_238 : decode cL_isTold 238 = .ok (.iload 8, 2) := by decide +kernel
theorem dL_isTold_240 : decode cL_isTold 240 = .ok (.iaload, 1) := by decide +kernel
theorem dL_isTold_241 : decode cL_isTold 241 = .ok (.bipush 7, 2) := by decide +kernel
theorem dL_isTold_243 : decode cL_isTold 243 = .ok (.ishr, 1) := by decide +kernel
theorem dL_isTold_244 : decode cL_isTold 244 = .ok (.bipush 7, 2) := by decide +kernel
theorem dL_isTold_246 : decode cL_isTold 246 = .ok (.iand, 1) := by decide +kernel
theorem dL_isTold_247 : decode cL_isTold 247 = .ok (.if_icmp .eq 5, 3) := by decide +kernel
theorem dL_isTold_250 : decode cL_isTold 250 = .ok (.iconst 0, 1) := by decide +kernel
theorem dL_isTold_251 : decode cL_isTold 251 = .ok (.ireturn, 1) := by decide +kernel
theorem dL_isTold_252 : decode cL_isTold 252 = .ok (.iinc 8 1, 3) := by decide +kernel
theorem dL_isTold_255 : decode cL_isTold 255 = .ok (.goto (-34), 3) := by decide +kernel
theorem dL_isTold_258 : decode cL_isTold 258 = .ok (.iconst 0, 1) := by decide +kernel
theorem dL_isTold_259 : decode cL_isTold 259 = .ok (.istore 8, 2) := by decide +kernel
theorem dL_isTold_261 : decode cL_isTold 261 = .ok (.iload 8, 2) := by decide +kernel
theorem dL_isTold_263 : decode cL_isTold 263 = .ok (.iconst 4, 1) := by decide +kernel
theorem dL_isTold_264 : decode cL_isTold 264 = .ok (.if_icmp .ge 95, 3) := by decide +kernel
theorem dL_isTold_267 : decode cL_isTold 267 = .ok (.iload_n 1, 1) := by decide +kernel
theorem dL_isTold_268 : decode cL_isTold 268 = .ok (.iconst 3, 1) := by decide +kernel
theorem dL_isTold_269 : decode cL_isTold 269 = .ok (.iload 8, 2) := by decide +kernel
theorem dL_isTold_271 : decode cL_isTold 271 = .ok (.imul, 1) := by decide +kernel
theorem dL_isTold_272 : decode cL_isTold 272 = .ok (.ishr, 1) := by decide +kernel
theorem dL_isTold_273 : decode cL_isTold 273 = .ok (.bipush 100, 2) := by decide +kernel
theorem dL_isTold_275 : decode cL_isTold 275 = .ok (.invokestatic 88, 3) := by decide +kernel
theorem dL_isTold_278 : decode cL_isTold 278 = .ok (.istore 9, 2) := by decide +kernel
theorem dL_isTold_280 : decode cL_isTold 280 = .ok (.aload_n 2, 1) := by decide +kernel
theorem dL_isTold_281 : decode cL_isTold 281 = .ok (.aload 7, 2) := by decide +kernel
theorem dL_isTold_283 : decode cL_isTold 283 = .ok (.iload 9, 2) := by decide +kernel
theorem dL_isTold_285 : decode cL_isTold 285 = .ok (.invokestatic 91, 3) := by decide +kernel
theorem dL_isTold_288 : decode cL_isTold 288 = .ok (.istore 10, 2) := by decide +kernel
theorem dL_isTold_290 : decode cL_isTold 290 = .ok (.aload_n 0, 1) := by decide +kernel
theorem dL_isTold_291 : decode cL_isTold 291 = .ok (.iload 9, 2) := by decide +kernel
theorem dL_isTold_293 : decode cL_isTold 293 = .ok (.invokestatic 147, 3) := by decide +kernel
theorem dL_isTold_296 : decode cL_isTold 296 = .ok (.iload 10, 2) := by decide +kernel
theorem dL_isTold_298 : decode cL_isTold 298 = .ok (.ifCond .ge 7, 3) := by decide +kernel
theorem dL_isTold_301 : decode cL_isTold 301 = .ok (.iconst (-1), 1) := by decide +kernel
theorem dL_isTold_302 : decode cL_isTold 302 = .ok (.goto 13, 3) := by decide +kernel
theorem dL_isTold_305 : decode cL_isTold 305 = .ok (.aload_n 2, 1) := by decide +kernel
theorem dL_isTold_306 : decode cL_isTold 306 = .ok (.iload 10, 2) := by decide +kernel
theorem dL_isTold_308 : decode cL_isTold 308 = .ok (.iaload, 1) := by decide +kernel
theorem dL_isTold_309 : decode cL_isTold 309 = .ok (.bipush 7, 2) := by decide +kernel
theorem dL_isTold_311 : decode cL_isTold 311 = .ok (.ishr, 1) := by decide +kernel
theorem dL_isTold_312 : decode cL_isTold 312 = .ok (.bipush 63, 2) := by decide +kernel
theorem dL_isTold_314 : decode cL_isTold 314 = .ok (.iand, 1) := by decide +kernel
theorem dL_isTold_315 : decode cL_isTold 315 = .ok (.if_icmp .ne 36, 3) := by decide +kernel
theorem dL_isTold_318 : decode cL_isTold 318 = .ok (.aload_n 0, 1) := by decide +kernel
theorem dL_isTold_319 : decode cL_isTold 319 = .ok (.iload 9, 2) := by decide +kernel
theorem dL_isTold_321 : decode cL_isTold 321 = .ok (.invokestatic 149, 3) := by decide +kernel
theorem dL_isTold_324 : decode cL_isTold 324 = .ok (.aload_n 3, 1) := by decide +kernel
theorem dL_isTold_325 : decode cL_isTold 325 = .ok (.aload 7, 2) := by decide +kernel
theorem dL_isTold_327 : decode cL_isTold 327 = .ok (.iload 9, 2) := by decide +kernel
theorem dL_isTold_329 : decode cL_isTold 329 = .ok (.invokestatic 128, 3) := by decide +kernel
theorem dL_isTold_332 : decode cL_isTold 332 = .ok (.if_icmp .ne 19, 3) := by decide +kernel
theorem dL_isTold_335 : decode cL_isTold 335 = .ok (.aload_n 0, 1) := by decide +kernel
theorem dL_isTold_336 : decode cL_isTold 336 = .ok (.iload 9, 2) := by decide +kernel
theorem dL_isTold_338 : decode cL_isTold 338 = .ok (.invokestatic 151, 3) := by decide +kernel
theorem dL_isTold_341 : decode cL_isTold 341 = .ok (.aload 4, 2) := by decide +kernel
theorem dL_isTold_343 : decode cL_isTold 343 = .ok (.iload 9, 2) := by decide +kernel
theorem dL_isTold_345 : decode cL_isTold 345 = .ok (.invokestatic 104, 3) := by decide +kernel
theorem dL_isTold_348 : decode cL_isTold 348 = .ok (.if_icmp .eq 5, 3) := by decide +kernel
theorem dL_isTold_351 : decode cL_isTold 351 = .ok (.iconst 0, 1) := by decide +kernel
theorem dL_isTold_352 : decode cL_isTold 352 = .ok (.ireturn, 1) := by decide +kernel
theorem dL_isTold_353 : decode cL_isTold 353 = .ok (.iinc 8 1, 3) := by decide +kernel
theorem dL_isTold_356 : decode cL_isTold 356 = .ok (.goto (-95), 3) := by decide +kernel
theorem dL_isTold_359 : decode cL_isTold 359 = .ok (.iconst 0, 1) := by decide +kernel
theorem dL_isTold_360 : decode cL_isTold 360 = .ok (.istore 8, 2) := by decide +kernel
theorem dL_isTold_362 : decode cL_isTold 362 = .ok (.iload 8, 2) := by decide +kernel
theorem dL_isTold_364 : decode cL_isTold 364 = .ok (.aload 7, 2) := by decide +kernel
theorem dL_isTold_366 : decode cL_isTold 366 = .ok (.iconst 5, 1) := by decide +kernel
theorem dL_isTold_367 : decode cL_isTold 367 = .ok (.iaload, 1) := by decide +kernel
theorem dL_isTold_368 : decode cL_isTold 368 = .ok (.if_icmp .ge 50, 3) := by decide +kernel
theorem dL_isTold_371 : decode cL_isTold 371 = .ok (.aload_n 0, 1) := by decide +kernel
theorem dL_isTold_372 : decode cL_isTold 372 = .ok (.iload 8, 2) := by decide +kernel
theorem dL_isTold_374 : decode cL_isTold 374 = .ok (.invokestatic 137, 3) := by decide +kernel
theorem dL_isTold_377 : decode cL_isTold 377 = .ok (.aload 5, 2) := by decide +kernel
theorem dL_isTold_379 : decode cL_isTold 379 = .ok (.iload 8, 2) := by decide +kernel
theorem dL_isTold_381 : decode cL_isTold 381 = .ok (.iaload, 1) := by decide +kernel
theorem dL_isTold_382 : decode cL_isTold 382 = .ok (.bipush 13, 2) := by decide +kernel
theorem dL_isTold_384 : decode cL_isTold 384 = .ok (.ishr, 1) := by decide +kernel
theorem dL_isTold_385 : decode cL_isTold 385 = .ok (.iconst 3, 1) := by decide +kernel
theorem dL_isTold_386 : decode cL_isTold 386 = .ok (.iand, 1) := by decide +kernel
theorem dL_isTold_387 : decode cL_isTold 387 = .ok (.if_icmp .ne 23, 3) := by decide +kernel
theorem dL_isTold_390 : decode cL_isTold 390 = .ok (.aload_n 0, 1) := by decide +kernel
theorem dL_isTold_391 : decode cL_isTold 391 = .ok (.iload 8, 2) := by decide +kernel
theorem dL_isTold_393 : decode cL_isTold 393 = .ok (.invokestatic 139, 3) := by decide +kernel
theorem dL_isTold_396 : decode cL_isTold 396 = .ok (.aload 5, 2) := by decide +kernel
theorem dL_isTold_398 : decode cL_isTold 398 = .ok (.iload 8, 2) := by decide +kernel
theorem dL_isTold_400 : decode cL_isTold 400 = .ok (.iaload, 1) := by decide +kernel
theorem dL_isTold_401 : decode cL_isTold 401 = .ok (.bipush 7, 2) := by decide +kernel
theorem dL_isTold_403 : decode cL_isTold 403 = .ok (.ishr, 1) := by decide +kernel
theorem dL_isTold_404 : decode cL_isTold 404 = .ok (.bipush 63, 2) := by decide +kernel
theorem dL_isTold_406 : decode cL_isTold 406 = .ok (.iand, 1) := by decide +kernel
theorem dL_isTold_407 : decode cL_isTold 407 = .ok (.if_icmp .eq 5, 3) := by decide +kernel
theorem dL_isTold_410 : decode cL_isTold 410 = .ok (.iconst 0, 1) := by decide +kernel
theorem dL_isTold_411 : decode cL_isTold 411 = .ok (.ireturn, 1) := by decide +kernel
theorem dL_isTold_412 : decode cL_isTold 412 = .ok (.iinc 8 1, 3) := by decide +kernel
theorem dL_isTold_415 : decode cL_isTold 415 = .ok (.goto (-53), 3) := by decide +kernel
theorem dL_isTold_418 : decode cL_isTold 418 = .ok (.aload_n 0, 1) := by decide +kernel
theorem dL_isTold_419 : decode cL_isTold 419 = .ok (.invokevirtual 153, 3) := by decide +kernel
theorem dL_isTold_422 : decode cL_isTold 422 = .ok (.aload 7, 2) := by decide +kernel
theorem dL_isTold_424 : decode cL_isTold 424 = .ok (.iconst 1, 1) := by decide +kernel
theorem dL_isTold_425 : decode cL_isTold 425 = .ok (.iaload, 1) := by decide +kernel
theorem dL_isTold_426 : decode cL_isTold 426 = .ok (.if_icmp .ne 160, 3) := by decide +kernel
theorem dL_isTold_429 : decode cL_isTold 429 = .ok (.aload_n 0, 1) := by decide +kernel
theorem dL_isTold_430 : decode cL_isTold 430 = .ok (.iconst 4, 1) := by decide +kernel
theorem dL_isTold_431 : decode cL_isTold 431 = .ok (.invokestatic 141, 3) := by decide +kernel
theorem dL_isTold_434 : decode cL_isTold 434 = .ok (.sipush (-7100), 3) := by decide +kernel
theorem dL_isTold_437 : decode cL_isTold 437 = .ok (.if_icmp .ne 149, 3) := by decide +kernel
theorem dL_isTold_440 : decode cL_isTold 440 = .ok (.aload_n 0, 1) := by decide +kernel
theorem dL_isTold_441 : decode cL_isTold 441 = .ok (.iconst (-1), 1) := by decide +kernel
theorem dL_isTold_442 : decode cL_isTold 442 = .ok (.invokestatic 141, 3) := by decide +kernel
theorem dL_isTold_445 : decode cL_isTold 445 = .ok (.sipush (-7100), 3) := by decide +kernel
theorem dL_isTold_448 : decode cL_isTold 448 = .ok (.if_icmp .ne 138, 3) := by decide +kernel
theorem dL_isTold_451 : decode cL_isTold 451 = .ok (.aload_n 0, 1) := by decide +kernel
theorem dL_isTold_452 : decode cL_isTold 452 = .ok (.iconst 4, 1) := by decide +kernel
theorem dL_isTold_453 : decode cL_isTold 453 = .ok (.invokestatic 143, 3) := by decide +kernel
theorem dL_isTold_456 : decode cL_isTold 456 = .ok (.sipush (-7100), 3) := by decide +kernel
theorem dL_isTold_459 : decode cL_isTold 459 = .ok (.if_icmp .ne 127, 3) := by decide +kernel
theorem dL_isTold_462 : decode cL_isTold 462 = .ok (.aload_n 0, 1) := by decide +kernel
theorem dL_isTold_463 : decode cL_isTold 463 = .ok (.iconst 4, 1) := by decide +kernel
theorem dL_isTold_464 : decode cL_isTold 464 = .ok (.iconst 3, 1) := by decide +kernel
theorem dL_isTold_465 : decode cL_isTold 465 = .ok (.invokestatic 145, 3) := by decide +kernel
theorem dL_isTold_468 : decode cL_isTold 468 = .ok (.sipush (-7100), 3) := by decide +kernel
theorem dL_isTold_471 : decode cL_isTold 471 = .ok (.if_icmp .ne 115, 3) := by decide +kernel
theorem dL_isTold_474 : decode cL_isTold 474 = .ok (.aload_n 0, 1) := by decide +kernel
theorem dL_isTold_475 : decode cL_isTold 475 = .ok (.iconst 0, 1) := by decide +kernel
theorem dL_isTold_476 : decode cL_isTold 476 = .ok (.iconst 3, 1) := by decide +kernel
theorem dL_isTold_477 : decode cL_isTold 477 = .ok (.invokestatic 145, 3) := by decide +kernel
theorem dL_isTold_480 : decode cL_isTold 480 = .ok (.sipush (-7200), 3) := by decide +kernel
theorem dL_isTold_483 : decode cL_isTold 483 = .ok (.if_icmp .ne 103, 3) := by decide +kernel
theorem dL_isTold_486 : decode cL_isTold 486 = .ok (.aload_n 0, 1) := by decide +kernel
theorem dL_isTold_487 : decode cL_isTold 487 = .ok (.iconst 0, 1) := by decide +kernel
theorem dL_isTold_488 : decode cL_isTold 488 = .ok (.iconst (-1), 1) := by decide +kernel
theorem dL_isTold_489 : decode cL_isTold 489 = .ok (.invokestatic 145, 3) := by decide +kernel
theorem dL_isTold_492 : decode cL_isTold 492 = .ok (.sipush (-7200), 3) := by decide +kernel
theorem dL_isTold_495 : decode cL_isTold 495 = .ok (.if_icmp .ne 91, 3) := by decide +kernel
theorem dL_isTold_498 : decode cL_isTold 498 = .ok (.aload_n 0, 1) := by decide +kernel
theorem dL_isTold_499 : decode cL_isTold 499 = .ok (.bipush 100, 2) := by decide +kernel
theorem dL_isTold_501 : decode cL_isTold 501 = .ok (.invokestatic 147, 3) := by decide +kernel
theorem dL_isTold_504 : decode cL_isTold 504 = .ok (.sipush (-7100), 3) := by decide +kernel
theorem dL_isTold_507 : decode cL_isTold 507 = .ok (.if_icmp .ne 79, 3) := by decide +kernel
theorem dL_isTold_510 : decode cL_isTold 510 = .ok (.aload_n 0, 1) := by decide +kernel
theorem dL_isTold_511 : decode cL_isTold 511 = .ok (.iconst (-1), 1) := by decide +kernel
theorem dL_isTold_512 : decode cL_isTold 512 = .ok (.invokestatic 147, 3) := by decide +kernel
theorem dL_isTold_515 : decode cL_isTold 515 = .ok (.sipush (-7100), 3) := by decide +kernel
theorem dL_isTold_518 : decode cL_isTold 518 = .ok (.if_icmp .ne 68, 3) := by decide +kernel
theorem dL_isTold_521 : decode cL_isTold 521 = .ok (.aload_n 0, 1) := by decide +kernel
theorem dL_isTold_522 : decode cL_isTold 522 = .ok (.bipush 100, 2) := by decide +kernel
theorem dL_isTold_524 : decode cL_isTold 524 = .ok (.invokestatic 149, 3) := by decide +kernel
theorem dL_isTold_527 : decode cL_isTold 527 = .ok (.sipush (-7100), 3) := by decide +kernel
theorem dL_isTold_530 : decode cL_isTold 530 = .ok (.if_icmp .ne 56, 3) := by decide +kernel
theorem dL_isTold_533 : decode cL_isTold 533 = .ok (.aload_n 0, 1) := by decide +kernel
theorem dL_isTold_534 : decode cL_isTold 534 = .ok (.ldc 103, 2) := by decide +kernel
theorem dL_isTold_536 : decode cL_isTold 536 = .ok (.invokestatic 151, 3) := by decide +kernel
theorem dL_isTold_539 : decode cL_isTold 539 = .ok (.sipush (-7100), 3) := by decide +kernel
theorem dL_isTold_542 : decode cL_isTold 542 = .ok (.if_icmp .ne 44, 3) := by decide +kernel
theorem dL_isTold_545 : decode cL_isTold 545 = .ok (.aload_n 0, 1) := by decide +kernel
theorem dL_isTold_546 : decode cL_isTold 546 = .ok (.ldc 156, 2) := by decide +kernel
theorem dL_isTold_548 : decode cL_isTold 548 = .ok (.invokestatic 117, 3) := by decide +kernel
theorem dL_isTold_551 : decode cL_isTold 551 = .ok (.sipush (-7100), 3) := by decide +kernel
theorem dL_isTold_554 : decode cL_isTold 554 = .ok (.if_icmp .ne 32, 3) := by decide +kernel
theorem dL_isTold_557 : decode cL_isTold 557 = .ok (.aload_n 0, 1) := by decide +kernel
theorem dL_isTold_558 : decode cL_isTold 558 = .ok (.aload 7, 2) := by decide +kernel
theorem dL_isTold_560 : decode cL_isTold 560 = .ok (.iconst 5, 1) := by decide +kernel
theorem dL_isTold_561 : decode cL_isTold 561 = .ok (.iaload, 1) := by decide +kernel
theorem dL_isTold_562 : decode cL_isTold 562 = .ok (.invokestatic 137, 3) := by decide +kernel
theorem dL_isTold_565 : decode cL_isTold 565 = .ok (.sipush (-7100), 3) := by decide +kernel
theorem dL_isTold_568 : decode cL_isTold 568 = .ok (.if_icmp .ne 18, 3) := by decide +kernel
theorem dL_isTold_571 : decode cL_isTold 571 = .ok (.aload_n 0, 1) := by decide +kernel
theorem dL_isTold_572 : decode cL_isTold 572 = .ok (.iconst (-1), 1) := by decide +kernel
theorem dL_isTold_573 : decode cL_isTold 573 = .ok (.invokestatic 139, 3) := by decide +kernel
theorem dL_isTold_576 : decode cL_isTold 576 = .ok (.sipush (-7100), 3) := by decide +kernel
theorem dL_isTold_579 : decode cL_isTold 579 = .ok (.if_icmp .ne 7, 3) := by decide +kernel
theorem dL_isTold_582 : decode cL_isTold 582 = .ok (.iconst 1, 1) := by decide +kernel
theorem dL_isTold_583 : decode cL_isTold 583 = .ok (.goto 4, 3) := by decide +kernel
theorem dL_isTold_586 : decode cL_isTold 586 = .ok (.iconst 0, 1) := by decide +kernel
theorem dL_isTold_587 : decode cL_isTold 587 = .ok (.ireturn, 1) := by decide +kernel
