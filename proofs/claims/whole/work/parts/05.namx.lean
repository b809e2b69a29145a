set_option maxRecDepth 20000 in
theorem ggX0_init_J7_fill_53178 : GoodIn wsX0_init wsJ7_fill_53178 := goodIn_r _ [20] (by decide +kernel) (by decide +kernel)
set_option maxRecDepth 20000 in
theorem gX0_init_J7_fill_53178 : GoodIn wsX0_init (va_wsS RX0 43 yJ7_fill_53178 wsJ7_fill_53178) := goodIn_app (goodIn_of _ (by decide +kernel)) ggX0_init_J7_fill_53178
theorem dX0_init_0 : decode cX0_init 0 = .ok (.aload_n 0, 1) := by decide +kernel
theorem dX0_init_1 : decode cX0_init 1 = .ok (.invokespecial 1, 3) := by decide +kernel
theorem dX0_init_4 : decode cX0_init 4 = .ok (.aload_n 0, 1) := by decide +kernel
theorem dX0_init_5 : decode cX0_init 5 = .ok (.sipush 400, 3) := by decide +kernel
theorem dX0_init_8 : decode cX0_init 8 = .ok (.newarray .int, 2) := by decide +kernel
theorem dX0_init_10 : decode cX0_init 10 = .ok (.putfield 9, 3) := by decide +kernel
theorem dX0_init_13 : decode cX0_init 13 = .ok (.aload_n 0, 1) := by decide +kernel
theorem dX0_init_14 : decode cX0_init 14 = .ok (.bipush 8, 2) := by decide +kernel
theorem dX0_init_16 : decode cX0_init 16 = .ok (.newarray .int, 2) := by decide +kernel
theorem dX0_init_18 : decode cX0_init 18 = .ok (.putfield 13, 3) := by decide +kernel
theorem dX0_init_21 : decode cX0_init 21 = .ok (.aload_n 0, 1) := by decide +kernel
theorem dX0_init_22 : decode cX0_init 22 = .ok (.bipush 8, 2) := by decide +kernel
theorem dX0_init_24 : decode cX0_init 24 = .ok (.newarray .int, 2) := by decide +kernel
theorem dX0_init_26 : decode cX0_init 26 = .ok (.putfield 16, 3) := by decide +kernel
theorem dX0_init_29 : decode cX0_init 29 = .ok (.aload_n 0, 1) := by decide +kernel
theorem dX0_init_30 : decode cX0_init 30 = .ok (.bipush 8, 2) := by decide +kernel
theorem dX0_init_32 : decode cX0_init 32 = .ok (.newarray .int, 2) := by decide +kernel
theorem dX0_init_34 : decode cX0_init 34 = .ok (.putfield 19, 3) := by decide +kernel
theorem dX0_init_37 : decode cX0_init 37 = .ok (.aload_n 0, 1) := by decide +kernel
theorem dX0_init_38 : decode cX0_init 38 = .ok (.bipush 100, 2) := by decide +kernel
theorem dX0_init_40 : decode cX0_init 40 = .ok (.newarray .int, 2) := by decide +kernel
theorem dX0_init_42 : decode cX0_init 42 = .ok (.putfield 22, 3) := by decide +kernel
theorem dX0_init_45 : decode cX0_init 45 = .ok (.aload_n 0, 1) := by decide +kernel
theorem dX0_init_46 : decode cX0_init 46 = .ok (.bipush 60, 2) := by decide +kernel
theorem dX0_init_48 : decode cX0_init 48 = .ok (.newarray .int, 2) := by decide +kernel
theorem dX0_init_50 : decode cX0_init 50 = .ok (.putfield 25, 3) := by decide +kernel
theorem dX0_init_53 : decode cX0_init 53 = .ok (.aload_n 0, 1) := by decide +kernel
theorem dX0_init_54 : decode cX0_init 54 = .ok (.bipush 60, 2) := by decide +kernel
theorem dX0_init_56 : decode cX0_init 56 = .ok (.newarray .int, 2) := by decide +kernel
theorem dX0_init_58 : decode cX0_init 58 = .ok (.putfield 28, 3) := by decide +kernel
theorem dX0_init_61 : decode cX0_init 61 = .ok (.aload_n 0, 1) := by decide +kernel
theorem dX0_init_62 : decode cX0_init 62 = .ok (.bipush 60, 2) := by decide +kernel
theorem dX0_init_64 : decode cX0_init 64 = .ok (.newarray .int, 2) := by decide +kernel
theorem dX0_init_66 : decode cX0_init 66 = .ok (.putfield 31, 3) := by decide +kernel
theorem dX0_init_69 : decode cX0_init 69 = .ok (.aload_n 0, 1) := by decide +kernel
theorem dX0_init_70 : decode cX0_init 70 = .ok (.bipush 60, 2) := by decide +kernel
theorem dX0_init_72 : decode cX0_init 72 = .ok (.newarray .int, 2) := by decide +kernel
theorem dX0_init_74 : decode cX0_init 74 = .ok (.putfield 34, 3) := by decide +kernel
theorem dX0_init_77 : decode cX0_init 77 = .ok (.aload_n 0, 1) := by decide +kernel
theorem dX0_init_78 : decode cX0_init 78 = .ok (.bipush 60, 2) := by decide +kernel
theorem dX0_init_80 : decode cX0_init 80 = .ok (.newarray .int, 2) := by decide +kernel
theorem dX0_init_82 : decode cX0_init 82 = .ok (.putfield 37, 3) := by decide +kernel
theorem dX0_init_85 : decode cX0_init 85 = .ok (.aload_n 0, 1) := by decide +kernel
theorem dX0_init_86 : decode cX0_init 86 = .ok (.bipush 60, 2) := by decide +kernel
theorem dX0_init_88 : decode cX0_init 88 = .ok (.newarray .int, 2) := by decide +kernel
theorem dX0_init_90 : decode cX0_init 90 = .ok (.putfield 40, 3) := by decide +kernel
theorem dX0_init_93 : decode cX0_init 93 = .ok (.aload_n 0, 1) := by decide +kernel
theorem dX0_init_94 : decode cX0_init 94 = .ok (.getfield 9, 3) := by decide +kernel
theorem dX0_init_97 : decode cX0_init 97 = .ok (.iconst (-1), 1) := by decide +kernel
theorem dX0_init_98 : decode cX0_init 98 = .ok (.invokestatic 43, 3) := by decide +kernel
theorem dX0_init_101 : decode cX0_init 101 = .ok (.aload_n 0, 1) := by decide +kernel
theorem dX0_init_102 : decode cX0_init 102 = .ok (.getfield 19, 3) := by decide +kernel
theorem dX0_init_105 : decode cX0_init 105 = .ok (.iconst (-1), 1) := by decide +kernel
theorem dX0_init_106 : decode cX0_init 106 = .ok (.invokestatic 43, 3) := by decide +kernel
theorem dX0_init_109 : decode cX0_init 109 = .ok (.aload_n 0, 1) := by decide +kernel
theorem dX0_init_110 : decode cX0_init 110 = .ok (.getfield 13, 3) := by decide +kernel
theorem dX0_init_113 : decode cX0_init 113 = .ok (.iconst 0, 1) := by decide +kernel
theorem dX0_init_114 : decode cX0_init 114 = .ok (.bipush 99, 2) := by decide +kernel
theorem dX0_init_116 : decode cX0_init 116 = .ok (.iastore, 1) := by decide +kernel
theorem dX0_init_117 : decode cX0_init 117 = .ok (.aload_n 0, 1) := by decide +kernel
theorem dX0_init_118 : decode cX0_init 118 = .ok (.iconst 1, 1) := by decide +kernel
theorem dX0_init_119 : decode cX0_init 119 = .ok (.putfield 49, 3) := by decide +kernel
theorem dX0_init_122 : decode cX0_init 122 = .ok (.return_, 1) := by decide +kernel
set_option maxRecDepth 20000 in
theorem ggX0_join_X0_checkKey : GoodIn wsX0_join wsX0_checkKey := goodIn_ca (goodIn_r _ [7, 8, 9, 10, 11, 6, 12] (by decide +kernel) (by decide +kernel)) (goodIn_sub (fun _ h => List.mem_cons_of_mem _ (List.mem_append_left _ (List.mem_append_right _ h))) (by decide +kernel))
set_option maxRecDepth 20000 in
theorem gX0_join_X0_checkKey : GoodIn wsX0_join (va_wsS RX0 53 yX0_checkKey wsX0_checkKey) := goodIn_app (goodIn_of _ (by decide +kernel)) ggX0_join_X0_checkKey
set_option maxRecDepth 20000 in
theorem ggX0_join_X0_checkAddress : GoodIn wsX0_join wsX0_checkAddress := goodIn_ca (goodIn_r _ [15, 16, 17] (by decide +kernel) (by decide +kernel)) (goodIn_sub (fun _ h => List.mem_cons_of_mem _ (List.mem_append_right _ h)) (by decide +kernel))
set_option maxRecDepth 20000 in
theorem gX0_join_X0_checkAddress : GoodIn wsX0_join (va_wsS RX0 57 yX0_checkAddress wsX0_checkAddress) := goodIn_app (goodIn_of _ (by decide +kernel)) ggX0_join_X0_checkAddress
set_option maxRecDepth 20000 in
theorem ggX0_join_X0_isMember : GoodIn wsX0_join wsX0_isMember := goodIn_r _ [21, 22, 23, 24, 6, 25, 26, 27, 28, 29, 30, 31, 32, 33, 34, 35, 36, 37, 38, 39, 40, 41, 42, 43, 44, 45, 46, 47, 48, 49, 50, 51, 52, 10, 11, 12, 66, 67, 68, 69, 70, 71, 72, 73, 74, 75, 76, 77, 78, 79, 80, 81] (by decide +kernel) (by decide +kernel)
set_option maxRecDepth 20000 in
theorem gX0_join_X0_isMember : GoodIn wsX0_join (wsV RX0 60 RX0 yX0_isMember wsX0_isMember) := goodIn_app (goodIn_of _ (by decide +kernel)) ggX0_join_X0_isMember
set_option maxRecDepth 20000 in
theorem ggX0_join_X0_write : GoodIn wsX0_join wsX0_write := goodIn_r _ [56, 26, 27, 28, 6, 29, 30, 31, 32, 33, 34, 35, 36, 37, 38, 39, 40, 41, 42, 43, 44, 57, 58, 59, 60, 49, 50, 51, 52, 10, 11, 12, 61, 62, 63, 64, 65, 66, 67, 68, 69, 70, 71, 72, 73, 74, 75, 76, 77, 78, 79, 80, 81] (by decide +kernel) (by decide +kernel)
set_option maxRecDepth 20000 in
theorem gX0_join_X0_write : GoodIn wsX0_join (wsV RX0 76 RX0 yX0_write wsX0_write) := goodIn_app (goodIn_of _ (by decide +kernel)) ggX0_join_X0_write
theorem dX0_join_0 : decode cX0_join 0 = .ok (.iload_n 1, 1) := by decide +kernel
theorem dX0_join_1 : decode cX0_join 1 = .ok (.invokestatic 53, 3) := by decide +kernel
theorem dX0_join_4 : decode cX0_join 4 = .ok (.iload_n 2, 1) := by decide +kernel
theorem dX0_join_5 : decode cX0_join 5 = .ok (.invokestatic 57, 3) := by decide +kernel
theorem dX0_join_8 : decode cX0_join 8 = .ok (.aload_n 0, 1) := by decide +kernel
theorem dX0_join_9 : decode cX0_join 9 = .ok (.iload_n 1, 1) := by decide +kernel
theorem dX0_join_10 : decode cX0_join 10 = .ok (.invokevirtual 60, 3) := by decide +kernel
theorem dX0_join_13 : decode cX0_join 13 = .ok (.ifCond .eq 13, 3) := by decide +kernel
theorem dX0_join_16 : decode cX0_join 16 = .ok (.new 64, 3) := by decide +kernel
theorem dX0_join_19 : decode cX0_join 19 = .ok (.dup, 1) := by decide +kernel
theorem dX0_join_20 : decode cX0_join 20 = .ok (.ldc 66, 2) := by decide +kernel
theorem dX0_join_22 : decode cX0_join 22 = .ok (.invokespecial 68, 3) := by decide +kernel
theorem dX0_join_25 : decode cX0_join 25 = .ok (.athrow, 1) := by decide +kernel
theorem dX0_join_26 : decode cX0_join 26 = .ok (.aload_n 0, 1) := by decide +kernel
theorem dX0_join_27 : decode cX0_join 27 = .ok (.getfield 71, 3) := by decide +kernel
theorem dX0_join_30 : decode cX0_join 30 = .ok (.bipush 40, 2) := by decide +kernel
theorem dX0_join_32 : decode cX0_join 32 = .ok (.if_icmp .lt 13, 3) := by decide +kernel
theorem dX0_join_35 : decode cX0_join 35 = .ok (.new 64, 3) := by decide +kernel
theorem dX0_join_38 : decode cX0_join 38 = .ok (.dup, 1) := by decide +kernel
theorem dX0_join_39 : decode cX0_join 39 = .ok (.ldc 74, 2) := by decide +kernel
theorem dX0_join_41 : decode cX0_join 41 = .ok (.invokespecial 68, 3) := by decide +kernel
theorem dX0_join_44 : decode cX0_join 44 = .ok (.athrow, 1) := by decide +kernel
theorem dX0_join_45 : decode cX0_join 45 = .ok (.aload_n 0, 1) := by decide +kernel
theorem dX0_join_46 : decode cX0_join 46 = .ok (.iload_n 1, 1) := by decide +kernel
theorem dX0_join_47 : decode cX0_join 47 = .ok (.iload_n 2, 1) := by decide +kernel
theorem dX0_join_48 : decode cX0_join 48 = .ok (.invokevirtual 76, 3) := by decide +kernel
theorem dX0_join_51 : decode cX0_join 51 = .ok (.aload_n 0, 1) := by decide +kernel
theorem dX0_join_52 : decode cX0_join 52 = .ok (.dup, 1) := by decide +kernel
theorem dX0_join_53 : decode cX0_join 53 = .ok (.getfield 71, 3) := by decide +kernel
theorem dX0_join_56 : decode cX0_join 56 = .ok (.iconst 1, 1) := by decide +kernel
theorem dX0_join_57 : decode cX0_join 57 = .ok (.iadd, 1) := by decide +kernel
theorem dX0_join_58 : decode cX0_join 58 = .ok (.putfield 71, 3) := by decide +kernel
theorem dX0_join_61 : decode cX0_join 61 = .ok (.aload_n 0, 1) := by decide +kernel
theorem dX0_join_62 : decode cX0_join 62 = .ok (.getfield 71, 3) := by decide +kernel
theorem dX0_join_65 : decode cX0_join 65 = .ok (.ireturn, 1) := by decide +kernel
set_option maxRecDepth 20000 in
theorem ggX0_change_X0_checkKey : GoodIn wsX0_change wsX0_checkKey := goodIn_ca (goodIn_r _ [4, 5, 6, 7, 8, 3, 9] (by decide +kernel) (by decide +kernel)) (goodIn_sub (fun _ h => List.mem_cons_of_mem _ (List.mem_append_left _ (List.mem_append_left _ (List.mem_append_right _ h)))) (by decide +kernel))
set_option maxRecDepth 20000 in
theorem gX0_change_X0_checkKey : GoodIn wsX0_change (va_wsS RX0 53 yX0_checkKey wsX0_checkKey) := goodIn_app (goodIn_of _ (by decide +kernel)) ggX0_change_X0_checkKey
set_option maxRecDepth 20000 in
theorem ggX0_change_X0_checkAddress : GoodIn wsX0_change wsX0_checkAddress := goodIn_ca (goodIn_r _ [12, 13, 14] (by decide +kernel) (by decide +kernel)) (goodIn_sub (fun _ h => List.mem_cons_of_mem _ (List.mem_append_left _ (List.mem_append_right _ h))) (by decide +kernel))
set_option maxRecDepth 20000 in
theorem gX0_change_X0_checkAddress : GoodIn wsX0_change (va_wsS RX0 57 yX0_checkAddress wsX0_checkAddress) := goodIn_app (goodIn_of _ (by decide +kernel)) ggX0_change_X0_checkAddress
set_option maxRecDepth 20000 in
theorem ggX0_change_X0_checkMember : GoodIn wsX0_change wsX0_checkMember := goodIn_ca (goodIn_r _ [18, 19, 20, 21, 22, 23, 3, 24, 25, 26, 27, 28, 29, 30, 31, 32, 33, 34, 35, 36, 37, 38, 39, 40, 41, 42, 43, 44, 45, 46, 47, 48, 49, 50, 51, 52, 53, 54, 55, 7, 8, 9, 69, 70, 71, 72, 73, 74, 75, 76, 77, 78, 79, 80, 81, 82, 83, 84] (by decide +kernel) (by decide +kernel)) (goodIn_sub (fun _ h => List.mem_cons_of_mem _ (List.mem_append_right _ h)) (by decide +kernel))
set_option maxRecDepth 20000 in
theorem gX0_change_X0_checkMember : GoodIn wsX0_change (wsV RX0 80 RX0 yX0_checkMember wsX0_checkMember) := goodIn_app (goodIn_of _ (by decide +kernel)) ggX0_change_X0_checkMember
set_option maxRecDepth 20000 in
theorem ggX0_change_X0_read : GoodIn wsX0_change wsX0_read := goodIn_r _ [28, 29, 30, 31, 3, 32, 33, 34, 35, 36, 37, 38, 39, 40, 41, 42, 43, 44, 45, 46, 47, 48, 49, 50, 51, 52, 53, 54, 55, 7, 8, 9, 69, 70, 71, 72, 73, 74, 75, 76, 77, 78, 79, 80, 81, 82, 83, 84] (by decide +kernel) (by decide +kernel)
set_option maxRecDepth 20000 in
theorem gX0_change_X0_read : GoodIn wsX0_change (wsV RX0 83 RX0 yX0_read wsX0_read) := goodIn_app (goodIn_of _ (by decide +kernel)) ggX0_change_X0_read
set_option maxRecDepth 20000 in
theorem ggX0_change_X0_write : GoodIn wsX0_change wsX0_write := goodIn_r _ [59, 29, 30, 31, 3, 32, 33, 34, 35, 36, 37, 38, 39, 40, 41, 42, 43, 44, 45, 46, 47, 60, 61, 62, 63, 52, 53, 54, 55, 7, 8, 9, 64, 65, 66, 67, 68, 69, 70, 71, 72, 73, 74, 75, 76, 77, 78, 79, 80, 81, 82, 83, 84] (by decide +kernel) (by decide +kernel)
set_option maxRecDepth 20000 in
theorem gX0_change_X0_write : GoodIn wsX0_change (wsV RX0 76 RX0 yX0_write wsX0_write) := goodIn_app (goodIn_of _ (by decide +kernel)) ggX0_change_X0_write
theorem dX0_change_0 : decode cX0_change 0 = .ok (.iload_n 1, 1) := by decide +kernel
theorem dX0_change_1 : decode cX0_change 1 = .ok (.invokestatic 53, 3) := by decide +kernel
theorem dX0_change_4 : decode cX0_change 4 = .ok (.iload_n 2, 1) := by decide +kernel
theorem dX0_change_5 : decode cX0_change 5 = .ok (.invokestatic 57, 3) := by decide +kernel
theorem dX0_change_8 : decode cX0_change 8 = .ok (.aload_n 0, 1) := by decide +kernel
theorem dX0_change_9 : decode cX0_change 9 = .ok (.iload_n 1, 1) := by decide +kernel
theorem dX0_change_10 : decode cX0_change 10 = .ok (.invokevirtual 80, 3) := by decide +kernel
theorem dX0_change_13 : decode cX0_change 13 = .ok (.aload_n 0, 1) := by decide +kernel
theorem dX0_change_14 : decode cX0_change 14 = .ok (.iload_n 1, 1) := by decide +kernel
theorem dX0_change_15 : decode cX0_change 15 = .ok (.invokevirtual 83, 3) := by decide +kernel
theorem dX0_change_18 : decode cX0_change 18 = .ok (.istore_n 3, 1) := by decide +kernel
theorem dX0_change_19 : decode cX0_change 19 = .ok (.aload_n 0, 1) := by decide +kernel
theorem dX0_change_20 : decode cX0_change 20 = .ok (.iload_n 1, 1) := by decide +kernel
theorem dX0_change_21 : decode cX0_change 21 = .ok (.iload_n 2, 1) := by decide +kernel
theorem dX0_change_22 : decode cX0_change 22 = .ok (.invokevirtual 76, 3) := by decide +kernel
theorem dX0_change_25 : decode cX0_change 25 = .ok (.iload_n 3, 1) := by decide +kernel
theorem dX0_change_26 : decode cX0_change 26 = .ok (.ireturn, 1) := by decide +kernel
set_option maxRecDepth 20000 in
theorem ggX0_leave_X0_checkKey : GoodIn wsX0_leave wsX0_checkKey := goodIn_ca (goodIn_r _ [5, 6, 7, 8, 9, 4, 10] (by decide +kernel) (by decide +kernel)) (goodIn_sub (fun _ h => List.mem_cons_of_mem _ (List.mem_append_left _ (List.mem_append_right _ h))) (by decide +kernel))
set_option maxRecDepth 20000 in
theorem gX0_leave_X0_checkKey : GoodIn wsX0_leave (va_wsS RX0 53 yX0_checkKey wsX0_checkKey) := goodIn_app (goodIn_of _ (by decide +kernel)) ggX0_leave_X0_checkKey
set_option maxRecDepth 20000 in
theorem ggX0_leave_X0_checkMember : GoodIn wsX0_leave wsX0_checkMember := goodIn_ca (goodIn_r _ [14, 15, 16, 17, 18, 19, 4, 20, 21, 22, 23, 24, 25, 26, 27, 28, 29, 30, 31, 32, 33, 34, 35, 36, 37, 38, 39, 40, 41, 42, 43, 44, 45, 46, 47, 48, 49, 50, 51, 8, 9, 10, 65, 66, 67, 68, 69, 70, 71, 72, 73, 74, 75, 76, 77, 78, 79, 80] (by decide +kernel) (by decide +kernel)) (goodIn_sub (fun _ h => List.mem_cons_of_mem _ (List.mem_append_right _ h)) (by decide +kernel))
set_option maxRecDepth 20000 in
theorem gX0_leave_X0_checkMember : GoodIn wsX0_leave (wsV RX0 80 RX0 yX0_checkMember wsX0_checkMember) := goodIn_app (goodIn_of _ (by decide +kernel)) ggX0_leave_X0_checkMember
set_option maxRecDepth 20000 in
theorem ggX0_leave_X0_read : GoodIn wsX0_leave wsX0_read := goodIn_r _ [24, 25, 26, 27, 4, 28, 29, 30, 31, 32, 33, 34, 35, 36, 37, 38, 39, 40, 41, 42, 43, 44, 45, 46, 47, 48, 49, 50, 51, 8, 9, 10, 65, 66, 67, 68, 69, 70, 71, 72, 73, 74, 75, 76, 77, 78, 79, 80] (by decide +kernel) (by decide +kernel)
set_option maxRecDepth 20000 in
theorem gX0_leave_X0_read : GoodIn wsX0_leave (wsV RX0 83 RX0 yX0_read wsX0_read) := goodIn_app (goodIn_of _ (by decide +kernel)) ggX0_leave_X0_read
set_option maxRecDepth 20000 in
theorem ggX0_leave_X0_write : GoodIn wsX0_leave wsX0_write := goodIn_r _ [55, 25, 26, 27, 4, 28, 29, 30, 31, 32, 33, 34, 35, 36, 37, 38, 39, 40, 41, 42, 43, 56, 57, 58, 59, 48, 49, 50, 51, 8, 9, 10, 60, 61, 62, 63, 64, 65, 66, 67, 68, 69, 70, 71, 72, 73, 74, 75, 76, 77, 78, 79, 80] (by decide +kernel) (by decide +kernel)
set_option maxRecDepth 20000 in
theorem gX0_leave_X0_write : GoodIn wsX0_leave (wsV RX0 76 RX0 yX0_write wsX0_write) := goodIn_app (goodIn_of _ (by decide +kernel)) ggX0_leave_X0_write
theorem dX0_leave_0 : decode cX0_leave 0 = .ok (.iload_n 1, 1) := by decide +kernel
theorem dX0_leave_1 : decode cX0_leave 1 = .ok (.invokestatic 53, 3) := by decide +kernel
theorem dX0_leave_4 : decode cX0_leave 4 = .ok (.aload_n 0, 1) := by decide +kernel
theorem dX0_leave_5 : decode cX0_leave 5 = .ok (.iload_n 1, 1) := by decide +kernel
theorem dX0_leave_6 : decode cX0_leave 6 = .ok (.invokevirtual 80, 3) := by decide +kernel
theorem dX0_leave_9 : decode cX0_leave 9 = .ok (.aload_n 0, 1) := by decide +kernel
theorem dX0_leave_10 : decode cX0_leave 10 = .ok (.iload_n 1, 1) := by decide +kernel
theorem dX0_leave_11 : decode cX0_leave 11 = .ok (.invokevirtual 83, 3) := by decide +kernel
theorem dX0_leave_14 : decode cX0_leave 14 = .ok (.istore_n 2, 1) := by decide +kernel
theorem dX0_leave_15 : decode cX0_leave 15 = .ok (.aload_n 0, 1) := by decide +kernel
theorem dX0_leave_16 : decode cX0_leave 16 = .ok (.iload_n 1, 1) := by decide +kernel
theorem dX0_leave_17 : decode cX0_leave 17 = .ok (.iconst (-1), 1) := by decide +kernel
theorem dX0_leave_18 : decode cX0_leave 18 = .ok (.invokevirtual 76, 3) := by decide +kernel
theorem dX0_leave_21 : decode cX0_leave 21 = .ok (.aload_n 0, 1) := by decide +kernel
theorem dX0_leave_22 : decode cX0_leave 22 = .ok (.dup, 1) := by decide +kernel
theorem dX0_leave_23 : decode cX0_leave 23 = .ok (.getfield 71, 3) := by decide +kernel
theorem dX0_leave_26 : decode cX0_leave 26 = .ok (.iconst 1, 1) := by decide +kernel
theorem dX0_leave_27 : decode cX0_leave 27 = .ok (.isub, 1) := by decide +kernel
theorem dX0_leave_28 : decode cX0_leave 28 = .ok (.putfield 71, 3) := by decide +kernel
theorem dX0_leave_31 : decode cX0_leave 31 = .ok (.iload_n 2, 1) := by decide +kernel
theorem dX0_leave_32 : decode cX0_leave 32 = .ok (.ireturn, 1) := by decide +kernel
set_option maxRecDepth 20000 in
theorem ggX0_address_X0_checkKey : GoodIn wsX0_address wsX0_checkKey := goodIn_ca (goodIn_r _ [4, 5, 6, 7, 8, 3, 9] (by decide +kernel) (by decide +kernel)) (goodIn_sub (fun _ h => List.mem_cons_of_mem _ (List.mem_append_right _ h)) (by decide +kernel))
set_option maxRecDepth 20000 in
theorem gX0_address_X0_checkKey : GoodIn wsX0_address (va_wsS RX0 53 yX0_checkKey wsX0_checkKey) := goodIn_app (goodIn_of _ (by decide +kernel)) ggX0_address_X0_checkKey
set_option maxRecDepth 20000 in
theorem ggX0_address_X0_read : GoodIn wsX0_address wsX0_read := goodIn_r _ [13, 14, 15, 16, 3, 17, 18, 19, 20, 21, 22, 23, 24, 25, 26, 27, 28, 29, 30, 31, 32, 33, 34, 35, 36, 37, 38, 39, 40, 7, 8, 9, 41, 42, 43, 44, 45, 46, 47, 48, 49, 50, 51, 52, 53, 54, 55, 56] (by decide +kernel) (by decide +kernel)
set_option maxRecDepth 20000 in
theorem gX0_address_X0_read : GoodIn wsX0_address (wsV RX0 83 RX0 yX0_read wsX0_read) := goodIn_app (goodIn_of _ (by decide +kernel)) ggX0_address_X0_read
theorem dX0_address_0 : decode cX0_address 0 = .ok (.iload_n 1, 1) := by decide +kernel
theorem dX0_address_1 : decode cX0_address 1 = .ok (.invokestatic 53, 3) := by decide +kernel
theorem dX0_address_4 : decode cX0_address 4 = .ok (.aload_n 0, 1) := by decide +kernel
theorem dX0_address_5 : decode cX0_address 5 = .ok (.iload_n 1, 1) := by decide +kernel
theorem dX0_address_6 : decode cX0_address 6 = .ok (.invokevirtual 83, 3) := by decide +kernel
theorem dX0_address_9 : decode cX0_address 9 = .ok (.ireturn, 1) := by decide +kernel
set_option maxRecDepth 20000 in
theorem ggX0_inDistrict_X0_checkDistrict : GoodIn wsX0_inDistrict wsX0_checkDistrict := goodIn_ca (goodIn_r _ [4, 5, 6] (by decide +kernel) (by decide +kernel)) (goodIn_sub (fun _ h => List.mem_cons_of_mem _ (List.mem_append_right _ h)) (by decide +kernel))
set_option maxRecDepth 20000 in
theorem gX0_inDistrict_X0_checkDistrict : GoodIn wsX0_inDistrict (va_wsS RX0 87 yX0_checkDistrict wsX0_checkDistrict) := goodIn_app (goodIn_of _ (by decide +kernel)) ggX0_inDistrict_X0_checkDistrict
set_option maxRecDepth 20000 in
theorem ggX0_inDistrict_X0_read : GoodIn wsX0_inDistrict wsX0_read := goodIn_r _ [10, 11, 12, 13, 3, 14, 15, 16, 17, 18, 19, 20, 21, 22, 23, 24, 25, 26, 27, 28, 29, 30, 31, 32, 33, 34, 35, 36, 37, 38, 39, 40, 44, 45, 46, 47, 48, 49, 50, 51, 52, 53, 54, 55, 56, 57, 58, 59] (by decide +kernel) (by decide +kernel)
set_option maxRecDepth 20000 in
theorem gX0_inDistrict_X0_read : GoodIn wsX0_inDistrict (wsV RX0 83 RX0 yX0_read wsX0_read) := goodIn_app (goodIn_of _ (by decide +kernel)) ggX0_inDistrict_X0_read
set_option maxRecDepth 20000 in
theorem ggX0_inDistrict_X0_districtOf : GoodIn wsX0_inDistrict wsX0_districtOf := goodIn_r _ [43] (by decide +kernel) (by decide +kernel)
set_option maxRecDepth 20000 in
theorem gX0_inDistrict_X0_districtOf : GoodIn wsX0_inDistrict (va_wsS RX0 90 yX0_districtOf wsX0_districtOf) := goodIn_app (goodIn_of _ (by decide +kernel)) ggX0_inDistrict_X0_districtOf
theorem dX0_inDistrict_0 : decode cX0_inDistrict 0 = .ok (.iload_n 1, 1) := by decide +kernel
theorem dX0_inDistrict_1 : decode cX0_inDistrict 1 = .ok (.invokestatic 87, 3) := by decide +kernel
theorem dX0_inDistrict_4 : decode cX0_inDistrict 4 = .ok (.iconst 0, 1) := by decide +kernel
theorem dX0_inDistrict_5 : decode cX0_inDistrict 5 = .ok (.istore_n 2, 1) := by decide +kernel
theorem dX0_inDistrict_6 : decode cX0_inDistrict 6 = .ok (.iconst 0, 1) := by decide +kernel
theorem dX0_inDistrict_7 : decode cX0_inDistrict 7 = .ok (.istore_n 3, 1) := by decide +kernel
theorem dX0_inDistrict_8 : decode cX0_inDistrict 8 = .ok (.iload_n 3, 1) := by decide +kernel
theorem dX0_inDistrict_9 : decode cX0_inDistrict 9 = .ok (.bipush 100, 2) := by decide +kernel
theorem dX0_inDistrict_11 : decode cX0_inDistrict 11 = .ok (.if_icmp .ge 24, 3) := by decide +kernel
theorem dX0_inDistrict_14 : decode cX0_inDistrict 14 = .ok (.aload_n 0, 1) := by decide +kernel
theorem dX0_inDistrict_15 : decode cX0_inDistrict 15 = .ok (.iload_n 3, 1) := by decide +kernel
theorem dX0_inDistrict_16 : decode cX0_inDistrict 16 = .ok (.invokevirtual 83, 3) := by decide +kernel
theorem dX0_inDistrict_19 : decode cX0_inDistrict 19 = .ok (.invokestatic 90, 3) := by decide +kernel
theorem dX0_inDistrict_22 : decode cX0_inDistrict 22 = .ok (.iload_n 1, 1) := by decide +kernel
theorem dX0_inDistrict_23 : decode cX0_inDistrict 23 = .ok (.if_icmp .ne 6, 3) := by decide +kernel
theorem dX0_inDistrict_26 : decode cX0_inDistrict 26 = .ok (.iinc 2 1, 3) := by decide +kernel
theorem dX0_inDistrict_29 : decode cX0_inDistrict 29 = .ok (.iinc 3 1, 3) := by decide +kernel
theorem dX0_inDistrict_32 : decode cX0_inDistrict 32 = .ok (.goto (-24), 3) := by decide +kernel
theorem dX0_inDistrict_35 : decode cX0_inDistrict 35 = .ok (.iload_n 2, 1) := by decide +kernel
theorem dX0_inDistrict_36 : decode cX0_inDistrict 36 = .ok (.ireturn, 1) := by decide +kernel
set_option maxRecDepth 20000 in
theorem ggX0_split_X0_checkKey : GoodIn wsX0_split wsX0_checkKey := goodIn_ca (goodIn_r _ [7, 8, 9, 10, 11, 6, 12] (by decide +kernel) (by decide +kernel)) (goodIn_sub (fun _ h => List.mem_cons_of_mem _ (List.mem_append_right _ h)) (by decide +kernel))
set_option maxRecDepth 20000 in
theorem gX0_split_X0_checkKey : GoodIn wsX0_split (va_wsS RX0 53 yX0_checkKey wsX0_checkKey) := goodIn_app (goodIn_of _ (by decide +kernel)) ggX0_split_X0_checkKey
set_option maxRecDepth 20000 in
theorem ggX0_split_X0_rangeHolding : GoodIn wsX0_split wsX0_rangeHolding := goodIn_r _ [16, 3, 17, 18, 19, 6, 20, 21, 22, 23, 24, 25, 48, 49, 50, 51, 52, 53, 54, 55, 56, 57, 58, 59, 60, 61, 62, 63] (by decide +kernel) (by decide +kernel)
set_option maxRecDepth 20000 in
theorem gX0_split_X0_rangeHolding : GoodIn wsX0_split (wsV RX0 93 RX0 yX0_rangeHolding wsX0_rangeHolding) := goodIn_app (goodIn_of _ (by decide +kernel)) ggX0_split_X0_rangeHolding
set_option maxRecDepth 20000 in
theorem ggX0_split_X0_lastKeyOf : GoodIn wsX0_split wsX0_lastKeyOf := goodIn_r _ [20, 21, 22, 23, 24, 6, 25, 3, 48, 49, 50, 51, 52, 53, 54, 55, 56, 57, 58, 59, 60, 61, 62, 63] (by decide +kernel) (by decide +kernel)
set_option maxRecDepth 20000 in
theorem gX0_split_X0_lastKeyOf : GoodIn wsX0_split (wsV RX0 96 RX0 yX0_lastKeyOf wsX0_lastKeyOf) := goodIn_app (goodIn_of _ (by decide +kernel)) ggX0_split_X0_lastKeyOf
set_option maxRecDepth 20000 in
theorem ggX0_split_X0_isMoved : GoodIn wsX0_split wsX0_isMoved := goodIn_r _ [29, 30, 31, 32, 6, 33, 34, 22, 23, 24, 25, 3, 48, 49, 50, 51, 52, 53, 54, 55, 56, 57, 58, 59, 60, 61, 62, 63] (by decide +kernel) (by decide +kernel)
set_option maxRecDepth 20000 in
theorem gX0_split_X0_isMoved : GoodIn wsX0_split (wsV RX0 101 RX0 yX0_isMoved wsX0_isMoved) := goodIn_app (goodIn_of _ (by decide +kernel)) ggX0_split_X0_isMoved
set_option maxRecDepth 20000 in
theorem ggX0_split_X0_insertCopyBehind : GoodIn wsX0_split wsX0_insertCopyBehind := goodIn_r _ [38, 3, 39, 40, 41, 6, 42, 21, 43, 34, 22, 23, 24, 25, 48, 49, 50, 51, 52, 53, 54, 55, 56, 57, 58, 59, 60, 61, 62, 63] (by decide +kernel) (by decide +kernel)
set_option maxRecDepth 20000 in
theorem gX0_split_X0_insertCopyBehind : GoodIn wsX0_split (wsV RX0 108 RX0 yX0_insertCopyBehind wsX0_insertCopyBehind) := goodIn_app (goodIn_of _ (by decide +kernel)) ggX0_split_X0_insertCopyBehind
set_option maxRecDepth 20000 in
theorem ggX0_split_X0_putLastKey : GoodIn wsX0_split wsX0_putLastKey := goodIn_r _ [47, 21, 22, 23, 24, 6, 25, 3, 48, 49, 50, 51, 52, 53, 54, 55, 56, 57, 58, 59, 60, 61, 62, 63] (by decide +kernel) (by decide +kernel)
set_option maxRecDepth 20000 in
theorem gX0_split_X0_putLastKey : GoodIn wsX0_split (wsV RX0 111 RX0 yX0_putLastKey wsX0_putLastKey) := goodIn_app (goodIn_of _ (by decide +kernel)) ggX0_split_X0_putLastKey
theorem dX0_split_0 : decode cX0_split 0 = .ok (.iload_n 1, 1) := by decide +kernel
theorem dX0_split_1 : decode cX0_split 1 = .ok (.invokestatic 53, 3) := by decide +kernel
theorem dX0_split_4 : decode cX0_split 4 = .ok (.aload_n 0, 1) := by decide +kernel
theorem dX0_split_5 : decode cX0_split 5 = .ok (.iload_n 1, 1) := by decide +kernel
theorem dX0_split_6 : decode cX0_split 6 = .ok (.invokevirtual 93, 3) := by decide +kernel
theorem dX0_split_9 : decode cX0_split 9 = .ok (.istore_n 2, 1) := by decide +kernel
theorem dX0_split_10 : decode cX0_split 10 = .ok (.iload_n 1, 1) := by decide +kernel
theorem dX0_split_11 : decode cX0_split 11 = .ok (.aload_n 0, 1) := by decide +kernel
theorem dX0_split_12 : decode cX0_split 12 = .ok (.iload_n 2, 1) := by decide +kernel
theorem dX0_split_13 : decode cX0_split 13 = .ok (.invokevirtual 96, 3) := by decide +kernel
theorem dX0_split_16 : decode cX0_split 16 = .ok (.if_icmp .ne 13, 3) := by decide +kernel
theorem dX0_split_19 : decode cX0_split 19 = .ok (.new 64, 3) := by decide +kernel
theorem dX0_split_22 : decode cX0_split 22 = .ok (.dup, 1) := by decide +kernel
theorem dX0_split_23 : decode cX0_split 23 = .ok (.ldc 99, 2) := by decide +kernel
theorem dX0_split_25 : decode cX0_split 25 = .ok (.invokespecial 68, 3) := by decide +kernel
theorem dX0_split_28 : decode cX0_split 28 = .ok (.athrow, 1) := by decide +kernel
theorem dX0_split_29 : decode cX0_split 29 = .ok (.aload_n 0, 1) := by decide +kernel
theorem dX0_split_30 : decode cX0_split 30 = .ok (.iload_n 2, 1) := by decide +kernel
theorem dX0_split_31 : decode cX0_split 31 = .ok (.invokevirtual 101, 3) := by decide +kernel
theorem dX0_split_34 : decode cX0_split 34 = .ok (.ifCond .eq 13, 3) := by decide +kernel
theorem dX0_split_37 : decode cX0_split 37 = .ok (.new 64, 3) := by decide +kernel
theorem dX0_split_40 : decode cX0_split 40 = .ok (.dup, 1) := by decide +kernel
theorem dX0_split_41 : decode cX0_split 41 = .ok (.ldc 104, 2) := by decide +kernel
theorem dX0_split_43 : decode cX0_split 43 = .ok (.invokespecial 68, 3) := by decide +kernel
theorem dX0_split_46 : decode cX0_split 46 = .ok (.athrow, 1) := by decide +kernel
theorem dX0_split_47 : decode cX0_split 47 = .ok (.aload_n 0, 1) := by decide +kernel
theorem dX0_split_48 : decode cX0_split 48 = .ok (.getfield 49, 3) := by decide +kernel
theorem dX0_split_51 : decode cX0_split 51 = .ok (.bipush 8, 2) := by decide +kernel
theorem dX0_split_53 : decode cX0_split 53 = .ok (.if_icmp .lt 13, 3) := by decide +kernel
theorem dX0_split_56 : decode cX0_split 56 = .ok (.new 64, 3) := by decide +kernel
theorem dX0_split_59 : decode cX0_split 59 = .ok (.dup, 1) := by decide +kernel
theorem dX0_split_60 : decode cX0_split 60 = .ok (.ldc 106, 2) := by decide +kernel
theorem dX0_split_62 : decode cX0_split 62 = .ok (.invokespecial 68, 3) := by decide +kernel
theorem dX0_split_65 : decode cX0_split 65 = .ok (.athrow, 1) := by decide +kernel
theorem dX0_split_66 : decode cX0_split 66 = .ok (.aload_n 0, 1) := by decide +kernel
theorem dX0_split_67 : decode cX0_split 67 = .ok (.iload_n 2, 1) := by decide +kernel
theorem dX0_split_68 : decode cX0_split 68 = .ok (.invokevirtual 108, 3) := by decide +kernel
theorem dX0_split_71 : decode cX0_split 71 = .ok (.aload_n 0, 1) := by decide +kernel
theorem dX0_split_72 : decode cX0_split 72 = .ok (.iload_n 2, 1) := by decide +kernel
theorem dX0_split_73 : decode cX0_split 73 = .ok (.iload_n 1, 1) := by decide +kernel
theorem dX0_split_74 : decode cX0_split 74 = .ok (.invokevirtual 111, 3) := by decide +kernel
theorem dX0_split_77 : decode cX0_split 77 = .ok (.iload_n 2, 1) := by decide +kernel
theorem dX0_split_78 : decode cX0_split 78 = .ok (.iconst 1, 1) := by decide +kernel
theorem dX0_split_79 : decode cX0_split 79 = .ok (.iadd, 1) := by decide +kernel
theorem dX0_split_80 : decode cX0_split 80 = .ok (.ireturn, 1) := by decide +kernel
set_option maxRecDepth 20000 in
theorem ggX0_merge_X0_checkRange : GoodIn wsX0_merge wsX0_checkRange := goodIn_ca (goodIn_r _ [8, 9, 10, 11, 12, 13, 7, 14, 3, 38, 39, 40, 41, 42, 43, 44, 45, 46, 47, 48, 49, 50, 51, 52, 53] (by decide +kernel) (by decide +kernel)) (goodIn_sub (fun _ h => List.mem_cons_of_mem _ (List.mem_append_right _ h)) (by decide +kernel))
set_option maxRecDepth 20000 in
theorem gX0_merge_X0_checkRange : GoodIn wsX0_merge (wsV RX0 114 RX0 yX0_checkRange wsX0_checkRange) := goodIn_app (goodIn_of _ (by decide +kernel)) ggX0_merge_X0_checkRange
set_option maxRecDepth 20000 in
theorem ggX0_merge_X0_isRange : GoodIn wsX0_merge wsX0_isRange := goodIn_r _ [14, 3, 38, 39, 40, 41, 42, 43, 44, 45, 46, 47, 48, 49, 50, 51, 52, 53] (by decide +kernel) (by decide +kernel)
set_option maxRecDepth 20000 in
theorem gX0_merge_X0_isRange : GoodIn wsX0_merge (wsV RX0 117 RX0 yX0_isRange wsX0_isRange) := goodIn_app (goodIn_of _ (by decide +kernel)) ggX0_merge_X0_isRange
set_option maxRecDepth 20000 in
theorem ggX0_merge_X0_homeOf : GoodIn wsX0_merge wsX0_homeOf := goodIn_r _ [18, 19, 11, 12, 13, 7, 14, 3, 38, 39, 40, 41, 42, 43, 44, 45, 46, 47, 48, 49, 50, 51, 52, 53] (by decide +kernel) (by decide +kernel)
set_option maxRecDepth 20000 in
theorem gX0_merge_X0_homeOf : GoodIn wsX0_merge (wsV RX0 122 RX0 yX0_homeOf wsX0_homeOf) := goodIn_app (goodIn_of _ (by decide +kernel)) ggX0_merge_X0_homeOf
set_option maxRecDepth 20000 in
theorem ggX0_merge_X0_isMoved : GoodIn wsX0_merge wsX0_isMoved := goodIn_r _ [23, 24, 25, 26, 7, 27, 28, 11, 12, 13, 14, 3, 38, 39, 40, 41, 42, 43, 44, 45, 46, 47, 48, 49, 50, 51, 52, 53] (by decide +kernel) (by decide +kernel)
set_option maxRecDepth 20000 in
theorem gX0_merge_X0_isMoved : GoodIn wsX0_merge (wsV RX0 101 RX0 yX0_isMoved wsX0_isMoved) := goodIn_app (goodIn_of _ (by decide +kernel)) ggX0_merge_X0_isMoved
set_option maxRecDepth 20000 in
theorem ggX0_merge_X0_remove : GoodIn wsX0_merge wsX0_remove := goodIn_r _ [32, 3, 33, 34, 35, 7, 36, 37, 19, 28, 11, 12, 13, 14, 38, 39, 40, 41, 42, 43, 44, 45, 46, 47, 48, 49, 50, 51, 52, 53] (by decide +kernel) (by decide +kernel)
set_option maxRecDepth 20000 in
theorem gX0_merge_X0_remove : GoodIn wsX0_merge (wsV RX0 129 RX0 yX0_remove wsX0_remove) := goodIn_app (goodIn_of _ (by decide +kernel)) ggX0_merge_X0_remove
theorem dX0_merge_0 : decode cX0_merge 0 = .ok (.aload_n 0, 1) := by decide +kernel
theorem dX0_merge_1 : decode cX0_merge 1 = .ok (.iload_n 1, 1) := by decide +kernel
theorem dX0_merge_2 : decode cX0_merge 2 = .ok (.invokevirtual 114, 3) := by decide +kernel
theorem dX0_merge_5 : decode cX0_merge 5 = .ok (.iload_n 1, 1) := by decide +kernel
theorem dX0_merge_6 : decode cX0_merge 6 = .ok (.iconst 1, 1) := by decide +kernel
theorem dX0_merge_7 : decode cX0_merge 7 = .ok (.iadd, 1) := by decide +kernel
theorem dX0_merge_8 : decode cX0_merge 8 = .ok (.istore_n 2, 1) := by decide +kernel
theorem dX0_merge_9 : decode cX0_merge 9 = .ok (.aload_n 0, 1) := by decide +kernel
theorem dX0_merge_10 : decode cX0_merge 10 = .ok (.iload_n 2, 1) := by decide +kernel
theorem dX0_merge_11 : decode cX0_merge 11 = .ok (.invokevirtual 117, 3) := by decide +kernel
theorem dX0_merge_14 : decode cX0_merge 14 = .ok (.ifCond .ne 13, 3) := by decide +kernel
theorem dX0_merge_17 : decode cX0_merge 17 = .ok (.new 64, 3) := by decide +kernel
theorem dX0_merge_20 : decode cX0_merge 20 = .ok (.dup, 1) := by decide +kernel
theorem dX0_merge_21 : decode cX0_merge 21 = .ok (.ldc 120, 2) := by decide +kernel
theorem dX0_merge_23 : decode cX0_merge 23 = .ok (.invokespecial 68, 3) := by decide +kernel
theorem dX0_merge_26 : decode cX0_merge 26 = .ok (.athrow, 1) := by decide +kernel
theorem dX0_merge_27 : decode cX0_merge 27 = .ok (.aload_n 0, 1) := by decide +kernel
theorem dX0_merge_28 : decode cX0_merge 28 = .ok (.iload_n 1, 1) := by decide +kernel
theorem dX0_merge_29 : decode cX0_merge 29 = .ok (.invokevirtual 122, 3) := by decide +kernel
theorem dX0_merge_32 : decode cX0_merge 32 = .ok (.aload_n 0, 1) := by decide +kernel
theorem dX0_merge_33 : decode cX0_merge 33 = .ok (.iload_n 2, 1) := by decide +kernel
theorem dX0_merge_34 : decode cX0_merge 34 = .ok (.invokevirtual 122, 3) := by decide +kernel
theorem dX0_merge_37 : decode cX0_merge 37 = .ok (.if_icmp .eq 13, 3) := by decide +kernel
theorem dX0_merge_40 : decode cX0_merge 40 = .ok (.new 64, 3) := by decide +kernel
theorem dX0_merge_43 : decode cX0_merge 43 = .ok (.dup, 1) := by decide +kernel
theorem dX0_merge_44 : decode cX0_merge 44 = .ok (.ldc 125, 2) := by decide +kernel
theorem dX0_merge_46 : decode cX0_merge 46 = .ok (.invokespecial 68, 3) := by decide +kernel
theorem dX0_merge_49 : decode cX0_merge 49 = .ok (.athrow, 1) := by decide +kernel
theorem dX0_merge_50 : decode cX0_merge 50 = .ok (.aload_n 0, 1) := by decide +kernel
theorem dX0_merge_51 : decode cX0_merge 51 = .ok (.iload_n 1, 1) := by decide +kernel
theorem dX0_merge_52 : decode cX0_merge 52 = .ok (.invokevirtual 101, 3) := by decide +kernel
theorem dX0_merge_55 : decode cX0_merge 55 = .ok (.ifCond .ne 11, 3) := by decide +kernel
theorem dX0_merge_58 : decode cX0_merge 58 = .ok (.aload_n 0, 1) := by decide +kernel
theorem dX0_merge_59 : decode cX0_merge 59 = .ok (.iload_n 2, 1) := by decide +kernel
theorem dX0_merge_60 : decode cX0_merge 60 = .ok (.invokevirtual 101, 3) := by decide +kernel
theorem dX0_merge_63 : decode cX0_merge 63 = .ok (.ifCond .eq 13, 3) := by decide +kernel
theorem dX0_merge_66 : decode cX0_merge 66 = .ok (.new 64, 3) := by decide +kernel
theorem dX0_merge_69 : decode cX0_merge 69 = .ok (.dup, 1) := by decide +kernel
theorem dX0_merge_70 : decode cX0_merge 70 = .ok (.ldc 127, 2) := by decide +kernel
theorem dX0_merge_72 : decode cX0_merge 72 = .ok (.invokespecial 68, 3) := by decide +kernel
theorem dX0_merge_75 : decode cX0_merge 75 = .ok (.athrow, 1) := by decide +kernel
theorem dX0_merge_76 : decode cX0_merge 76 = .ok (.aload_n 0, 1) := by decide +kernel
theorem dX0_merge_77 : decode cX0_merge 77 = .ok (.iload_n 1, 1) := by decide +kernel
theorem dX0_merge_78 : decode cX0_merge 78 = .ok (.invokevirtual 129, 3) := by decide +kernel
theorem dX0_merge_81 : decode cX0_merge 81 = .ok (.aload_n 0, 1) := by decide +kernel
theorem dX0_merge_82 : decode cX0_merge 82 = .ok (.getfield 49, 3) := by decide +kernel
theorem dX0_merge_85 : decode cX0_merge 85 = .ok (.ireturn, 1) := by decide +kernel
set_option maxRecDepth 20000 in
theorem ggX0_move_X0_checkRange : GoodIn wsX0_move wsX0_checkRange := goodIn_ca (goodIn_r _ [9, 10, 11, 12, 13, 14, 8, 15, 16, 52, 53, 54, 55, 56, 57, 58, 59, 60, 61, 62, 63, 64, 65, 66, 67] (by decide +kernel) (by decide +kernel)) (goodIn_sub (fun _ h => List.mem_cons_of_mem _ (List.mem_append_right _ h)) (by decide +kernel))
set_option maxRecDepth 20000 in
theorem gX0_move_X0_checkRange : GoodIn wsX0_move (wsV RX0 114 RX0 yX0_checkRange wsX0_checkRange) := goodIn_app (goodIn_of _ (by decide +kernel)) ggX0_move_X0_checkRange
set_option maxRecDepth 20000 in
theorem ggX0_move_X0_checkShard : GoodIn wsX0_move wsX0_checkShard := goodIn_ca (goodIn_r _ [19, 10, 11, 20, 21, 8, 22] (by decide +kernel) (by decide +kernel)) (goodIn_sub (fun _ h => List.mem_cons_of_mem _ (List.mem_append_right _ h)) (by decide +kernel))
set_option maxRecDepth 20000 in
theorem gX0_move_X0_checkShard : GoodIn wsX0_move (va_wsS RX0 132 yX0_checkShard wsX0_checkShard) := goodIn_app (goodIn_of _ (by decide +kernel)) ggX0_move_X0_checkShard
set_option maxRecDepth 20000 in
theorem ggX0_move_X0_isMoved : GoodIn wsX0_move wsX0_isMoved := goodIn_r _ [26, 27, 28, 29, 8, 30, 4, 12, 13, 14, 15, 16, 52, 53, 54, 55, 56, 57, 58, 59, 60, 61, 62, 63, 64, 65, 66, 67] (by decide +kernel) (by decide +kernel)
set_option maxRecDepth 20000 in
theorem gX0_move_X0_isMoved : GoodIn wsX0_move (wsV RX0 101 RX0 yX0_isMoved wsX0_isMoved) := goodIn_app (goodIn_of _ (by decide +kernel)) ggX0_move_X0_isMoved
set_option maxRecDepth 20000 in
theorem ggX0_move_X0_firstKeyOf : GoodIn wsX0_move wsX0_firstKeyOf := goodIn_r _ [34, 35, 36, 37, 8, 38, 39, 12, 13, 14, 15, 16, 52, 53, 54, 55, 56, 57, 58, 59, 60, 61, 62, 63, 64, 65, 66, 67] (by decide +kernel) (by decide +kernel)
set_option maxRecDepth 20000 in
theorem gX0_move_X0_firstKeyOf : GoodIn wsX0_move (wsV RX0 139 RX0 yX0_firstKeyOf wsX0_firstKeyOf) := goodIn_app (goodIn_of _ (by decide +kernel)) ggX0_move_X0_firstKeyOf
set_option maxRecDepth 20000 in
theorem ggX0_move_X0_lastKeyOf : GoodIn wsX0_move wsX0_lastKeyOf := goodIn_r _ [38, 39, 12, 13, 14, 8, 15, 16, 52, 53, 54, 55, 56, 57, 58, 59, 60, 61, 62, 63, 64, 65, 66, 67] (by decide +kernel) (by decide +kernel)
set_option maxRecDepth 20000 in
theorem gX0_move_X0_lastKeyOf : GoodIn wsX0_move (wsV RX0 96 RX0 yX0_lastKeyOf wsX0_lastKeyOf) := goodIn_app (goodIn_of _ (by decide +kernel)) ggX0_move_X0_lastKeyOf
set_option maxRecDepth 20000 in
theorem ggX0_move_X0_countRows : GoodIn wsX0_move wsX0_countRows := goodIn_r _ [43, 44, 45, 46, 8, 47, 48, 20, 21, 22, 49, 50, 51, 52, 53, 54, 55, 56, 57, 58, 59, 60, 61, 62, 63, 64, 65, 66, 67] (by decide +kernel) (by decide +kernel)
set_option maxRecDepth 20000 in
theorem gX0_move_X0_countRows : GoodIn wsX0_move (wsV RX0 142 RX0 yX0_countRows wsX0_countRows) := goodIn_app (goodIn_of _ (by decide +kernel)) ggX0_move_X0_countRows
theorem dX0_move_0 : decode cX0_move 0 = .ok (.aload_n 0, 1) := by decide +kernel
theorem dX0_move_1 : decode cX0_move 1 = .ok (.iload_n 1, 1) := by decide +kernel
theorem dX0_move_2 : decode cX0_move 2 = .ok (.invokevirtual 114, 3) := by decide +kernel
theorem dX0_move_5 : decode cX0_move 5 = .ok (.iload_n 2, 1) := by decide +kernel
theorem dX0_move_6 : decode cX0_move 6 = .ok (.invokestatic 132, 3) := by decide +kernel
theorem dX0_move_9 : decode cX0_move 9 = .ok (.aload_n 0, 1) := by decide +kernel
theorem dX0_move_10 : decode cX0_move 10 = .ok (.iload_n 1, 1) := by decide +kernel
theorem dX0_move_11 : decode cX0_move 11 = .ok (.invokevirtual 101, 3) := by decide +kernel
theorem dX0_move_14 : decode cX0_move 14 = .ok (.ifCond .eq 13, 3) := by decide +kernel
theorem dX0_move_17 : decode cX0_move 17 = .ok (.new 64, 3) := by decide +kernel
theorem dX0_move_20 : decode cX0_move 20 = .ok (.dup, 1) := by decide +kernel
theorem dX0_move_21 : decode cX0_move 21 = .ok (.ldc 135, 2) := by decide +kernel
theorem dX0_move_23 : decode cX0_move 23 = .ok (.invokespecial 68, 3) := by decide +kernel
theorem dX0_move_26 : decode cX0_move 26 = .ok (.athrow, 1) := by decide +kernel
theorem dX0_move_27 : decode cX0_move 27 = .ok (.aload_n 0, 1) := by decide +kernel
theorem dX0_move_28 : decode cX0_move 28 = .ok (.getfield 16, 3) := by decide +kernel
theorem dX0_move_31 : decode cX0_move 31 = .ok (.iload_n 1, 1) := by decide +kernel
theorem dX0_move_32 : decode cX0_move 32 = .ok (.iaload, 1) := by decide +kernel
theorem dX0_move_33 : decode cX0_move 33 = .ok (.iload_n 2, 1) := by decide +kernel
theorem dX0_move_34 : decode cX0_move 34 = .ok (.if_icmp .ne 13, 3) := by decide +kernel
theorem dX0_move_37 : decode cX0_move 37 = .ok (.new 64, 3) := by decide +kernel
theorem dX0_move_40 : decode cX0_move 40 = .ok (.dup, 1) := by decide +kernel
theorem dX0_move_41 : decode cX0_move 41 = .ok (.ldc 137, 2) := by decide +kernel
theorem dX0_move_43 : decode cX0_move 43 = .ok (.invokespecial 68, 3) := by decide +kernel
theorem dX0_move_46 : decode cX0_move 46 = .ok (.athrow, 1) := by decide +kernel
theorem dX0_move_47 : decode cX0_move 47 = .ok (.aload_n 0, 1) := by decide +kernel
theorem dX0_move_48 : decode cX0_move 48 = .ok (.getfield 19, 3) := by decide +kernel
theorem dX0_move_51 : decode cX0_move 51 = .ok (.iload_n 1, 1) := by decide +kernel
theorem dX0_move_52 : decode cX0_move 52 = .ok (.iload_n 2, 1) := by decide +kernel
theorem dX0_move_53 : decode cX0_move 53 = .ok (.iastore, 1) := by decide +kernel
theorem dX0_move_54 : decode cX0_move 54 = .ok (.aload_n 0, 1) := by decide +kernel
theorem dX0_move_55 : decode cX0_move 55 = .ok (.aload_n 0, 1) := by decide +kernel
theorem dX0_move_56 : decode cX0_move 56 = .ok (.getfield 16, 3) := by decide +kernel
theorem dX0_move_59 : decode cX0_move 59 = .ok (.iload_n 1, 1) := by decide +kernel
theorem dX0_move_60 : decode cX0_move 60 = .ok (.iaload, 1) := by decide +kernel
theorem dX0_move_61 : decode cX0_move 61 = .ok (.aload_n 0, 1) := by decide +kernel
theorem dX0_move_62 : decode cX0_move 62 = .ok (.iload_n 1, 1) := by decide +kernel
theorem dX0_move_63 : decode cX0_move 63 = .ok (.invokevirtual 139, 3) := by decide +kernel
theorem dX0_move_66 : decode cX0_move 66 = .ok (.aload_n 0, 1) := by decide +kernel
theorem dX0_move_67 : decode cX0_move 67 = .ok (.iload_n 1, 1) := by decide +kernel
theorem dX0_move_68 : decode cX0_move 68 = .ok (.invokevirtual 96, 3) := by decide +kernel
theorem dX0_move_71 : decode cX0_move 71 = .ok (.invokevirtual 142, 3) := by decide +kernel
theorem dX0_move_74 : decode cX0_move 74 = .ok (.ireturn, 1) := by decide +kernel
set_option maxRecDepth 20000 in
theorem ggX0_step_X0_checkRange : GoodIn wsX0_step wsX0_checkRange := goodIn_ca (goodIn_r _ [7, 8, 9, 10, 11, 12, 6, 13, 14, 65, 66, 67, 68, 69, 70, 71, 72, 73, 74, 75, 76, 77, 78, 79, 80] (by decide +kernel) (by decide +kernel)) (goodIn_sub (fun _ h => List.mem_cons_of_mem _ (List.mem_append_left _ (List.mem_append_right _ h))) (by decide +kernel))
set_option maxRecDepth 20000 in
theorem gX0_step_X0_checkRange : GoodIn wsX0_step (wsV RX0 114 RX0 yX0_checkRange wsX0_checkRange) := goodIn_app (goodIn_of _ (by decide +kernel)) ggX0_step_X0_checkRange
set_option maxRecDepth 20000 in
theorem ggX0_step_X0_checkMoved : GoodIn wsX0_step wsX0_checkMoved := goodIn_ca (goodIn_r _ [18, 19, 20, 21, 22, 23, 6, 24, 25, 26, 27, 28, 2, 10, 11, 12, 13, 14, 65, 66, 67, 68, 69, 70, 71, 72, 73, 74, 75, 76, 77, 78, 79, 80] (by decide +kernel) (by decide +kernel)) (goodIn_sub (fun _ h => List.mem_cons_of_mem _ (List.mem_append_right _ h)) (by decide +kernel))
set_option maxRecDepth 20000 in
theorem gX0_step_X0_checkMoved : GoodIn wsX0_step (wsV RX0 146 RX0 yX0_checkMoved wsX0_checkMoved) := goodIn_app (goodIn_of _ (by decide +kernel)) ggX0_step_X0_checkMoved
set_option maxRecDepth 20000 in
theorem ggX0_step_X0_lowestKeyNotBrought : GoodIn wsX0_step wsX0_lowestKeyNotBrought := goodIn_r _ [32, 33, 34, 35, 6, 36, 1, 10, 11, 12, 13, 14, 25, 26, 27, 28, 2, 37, 38, 39, 40, 41, 42, 43, 44, 45, 46, 47, 48, 49, 50, 51, 52, 53, 54, 55, 56, 65, 66, 67, 68, 69, 70, 71, 72, 73, 74, 75, 76, 77, 78, 79, 80] (by decide +kernel) (by decide +kernel)
set_option maxRecDepth 20000 in
theorem gX0_step_X0_lowestKeyNotBrought : GoodIn wsX0_step (wsV RX0 149 RX0 yX0_lowestKeyNotBrought wsX0_lowestKeyNotBrought) := goodIn_app (goodIn_of _ (by decide +kernel)) ggX0_step_X0_lowestKeyNotBrought
set_option maxRecDepth 20000 in
theorem ggX0_step_X0_rowOf : GoodIn wsX0_step wsX0_rowOf := goodIn_r _ [49, 50, 51, 52, 6, 53, 54, 55, 56, 65, 66, 67, 68, 69, 70, 71, 72, 73, 74, 75, 76, 77, 78, 79, 80] (by decide +kernel) (by decide +kernel)
set_option maxRecDepth 20000 in
theorem gX0_step_X0_rowOf : GoodIn wsX0_step (wsV RX0 152 RX0 yX0_rowOf wsX0_rowOf) := goodIn_app (goodIn_of _ (by decide +kernel)) ggX0_step_X0_rowOf
set_option maxRecDepth 20000 in
theorem ggX0_step_X0_putRow : GoodIn wsX0_step wsX0_putRow := goodIn_r _ [60, 50, 51, 52, 6, 53, 54, 55, 56, 65, 66, 67, 68, 69, 70, 71, 72, 73, 74, 75, 76, 77, 78, 79, 80] (by decide +kernel) (by decide +kernel)
set_option maxRecDepth 20000 in
theorem gX0_step_X0_putRow : GoodIn wsX0_step (wsV RX0 156 RX0 yX0_putRow wsX0_putRow) := goodIn_app (goodIn_of _ (by decide +kernel)) ggX0_step_X0_putRow
set_option maxRecDepth 20000 in
theorem ggX0_step_X0_dropRows : GoodIn wsX0_step wsX0_dropRows := goodIn_r _ [64, 37, 38, 39, 6, 40, 41, 10, 11, 12, 13, 14, 42, 43, 44, 45, 57, 58, 59, 60, 50, 51, 52, 53, 54, 55, 56, 65, 66, 67, 68, 69, 70, 71, 72, 73, 74, 75, 76, 77, 78, 79, 80] (by decide +kernel) (by decide +kernel)
set_option maxRecDepth 20000 in
theorem gX0_step_X0_dropRows : GoodIn wsX0_step (wsV RX0 160 RX0 yX0_dropRows wsX0_dropRows) := goodIn_app (goodIn_of _ (by decide +kernel)) ggX0_step_X0_dropRows
theorem dX0_step_0 : decode cX0_step 0 = .ok (.aload_n 0, 1) := by decide +kernel
theorem dX0_step_1 : decode cX0_step 1 = .ok (.iload_n 1, 1) := by decide +kernel
theorem dX0_step_2 : decode cX0_step 2 = .ok (.invokevirtual 114, 3) := by decide +kernel
theorem dX0_step_5 : decode cX0_step 5 = .ok (.aload_n 0, 1) := by decide +kernel
theorem dX0_step_6 : decode cX0_step 6 = .ok (.iload_n 1, 1) := by decide +kernel
theorem dX0_step_7 : decode cX0_step 7 = .ok (.invokevirtual 146, 3) := by decide +kernel
theorem dX0_step_10 : decode cX0_step 10 = .ok (.aload_n 0, 1) := by decide +kernel
theorem dX0_step_11 : decode cX0_step 11 = .ok (.getfield 16, 3) := by decide +kernel
theorem dX0_step_14 : decode cX0_step 14 = .ok (.iload_n 1, 1) := by decide +kernel
theorem dX0_step_15 : decode cX0_step 15 = .ok (.iaload, 1) := by decide +kernel
theorem dX0_step_16 : decode cX0_step 16 = .ok (.istore_n 2, 1) := by decide +kernel
theorem dX0_step_17 : decode cX0_step 17 = .ok (.aload_n 0, 1) := by decide +kernel
theorem dX0_step_18 : decode cX0_step 18 = .ok (.getfield 19, 3) := by decide +kernel
theorem dX0_step_21 : decode cX0_step 21 = .ok (.iload_n 1, 1) := by decide +kernel
theorem dX0_step_22 : decode cX0_step 22 = .ok (.iaload, 1) := by decide +kernel
theorem dX0_step_23 : decode cX0_step 23 = .ok (.istore_n 3, 1) := by decide +kernel
theorem dX0_step_24 : decode cX0_step 24 = .ok (.aload_n 0, 1) := by decide +kernel
theorem dX0_step_25 : decode cX0_step 25 = .ok (.iload_n 1, 1) := by decide +kernel
theorem dX0_step_26 : decode cX0_step 26 = .ok (.invokevirtual 149, 3) := by decide +kernel
theorem dX0_step_29 : decode cX0_step 29 = .ok (.istore 4, 2) := by decide +kernel
theorem dX0_step_31 : decode cX0_step 31 = .ok (.iload 4, 2) := by decide +kernel
theorem dX0_step_33 : decode cX0_step 33 = .ok (.iconst (-1), 1) := by decide +kernel
theorem dX0_step_34 : decode cX0_step 34 = .ok (.if_icmp .eq 20, 3) := by decide +kernel
theorem dX0_step_37 : decode cX0_step 37 = .ok (.aload_n 0, 1) := by decide +kernel
theorem dX0_step_38 : decode cX0_step 38 = .ok (.iload_n 3, 1) := by decide +kernel
theorem dX0_step_39 : decode cX0_step 39 = .ok (.iload 4, 2) := by decide +kernel
theorem dX0_step_41 : decode cX0_step 41 = .ok (.aload_n 0, 1) := by decide +kernel
theorem dX0_step_42 : decode cX0_step 42 = .ok (.iload_n 2, 1) := by decide +kernel
theorem dX0_step_43 : decode cX0_step 43 = .ok (.iload 4, 2) := by decide +kernel
theorem dX0_step_45 : decode cX0_step 45 = .ok (.invokevirtual 152, 3) := by decide +kernel
theorem dX0_step_48 : decode cX0_step 48 = .ok (.invokevirtual 156, 3) := by decide +kernel
theorem dX0_step_51 : decode cX0_step 51 = .ok (.iload 4, 2) := by decide +kernel
theorem dX0_step_53 : decode cX0_step 53 = .ok (.ireturn, 1) := by decide +kernel
theorem dX0_step_54 : decode cX0_step 54 = .ok (.aload_n 0, 1) := by decide +kernel
theorem dX0_step_55 : decode cX0_step 55 = .ok (.iload_n 2, 1) := by decide +kernel
theorem dX0_step_56 : decode cX0_step 56 = .ok (.iload_n 1, 1) := by decide +kernel
theorem dX0_step_57 : decode cX0_step 57 = .ok (.invokevirtual 160, 3) := by decide +kernel
theorem dX0_step_60 : decode cX0_step 60 = .ok (.aload_n 0, 1) := by decide +kernel
theorem dX0_step_61 : decode cX0_step 61 = .ok (.getfield 16, 3) := by decide +kernel
theorem dX0_step_64 : decode cX0_step 64 = .ok (.iload_n 1, 1) := by decide +kernel
theorem dX0_step_65 : decode cX0_step 65 = .ok (.iload_n 3, 1) := by decide +kernel
theorem dX0_step_66 : decode cX0_step 66 = .ok (.iastore, 1) := by decide +kernel
theorem dX0_step_67 : decode cX0_step 67 = .ok (.aload_n 0, 1) := by decide +kernel
theorem dX0_step_68 : decode cX0_step 68 = .ok (.getfield 19, 3) := by decide +kernel
theorem dX0_step_71 : decode cX0_step 71 = .ok (.iload_n 1, 1) := by decide +kernel
theorem dX0_step_72 : decode cX0_step 72 = .ok (.iconst (-1), 1) := by decide +kernel
theorem dX0_step_73 : decode cX0_step 73 = .ok (.iastore, 1) := by decide +kernel
theorem dX0_step_74 : decode cX0_step 74 = .ok (.iconst (-1), 1) := by decide +kernel
theorem dX0_step_75 : decode cX0_step 75 = .ok (.ireturn, 1) := by decide +kernel
set_option maxRecDepth 20000 in
theorem ggX0_giveUp_X0_checkRange : GoodIn wsX0_giveUp wsX0_checkRange := goodIn_ca (goodIn_r _ [6, 7, 8, 9, 10, 11, 5, 12, 13, 60, 61, 62, 63, 64, 65, 66, 67, 68, 69, 70, 71, 72, 73, 74, 75] (by decide +kernel) (by decide +kernel)) (goodIn_sub (fun _ h => List.mem_cons_of_mem _ (List.mem_append_left _ (List.mem_append_right _ h))) (by decide +kernel))
set_option maxRecDepth 20000 in
theorem gX0_giveUp_X0_checkRange : GoodIn wsX0_giveUp (wsV RX0 114 RX0 yX0_checkRange wsX0_checkRange) := goodIn_app (goodIn_of _ (by decide +kernel)) ggX0_giveUp_X0_checkRange
set_option maxRecDepth 20000 in
theorem ggX0_giveUp_X0_checkMoved : GoodIn wsX0_giveUp wsX0_checkMoved := goodIn_ca (goodIn_r _ [17, 18, 19, 20, 21, 22, 5, 23, 24, 25, 26, 27, 1, 9, 10, 11, 12, 13, 60, 61, 62, 63, 64, 65, 66, 67, 68, 69, 70, 71, 72, 73, 74, 75] (by decide +kernel) (by decide +kernel)) (goodIn_sub (fun _ h => List.mem_cons_of_mem _ (List.mem_append_right _ h)) (by decide +kernel))
set_option maxRecDepth 20000 in
theorem gX0_giveUp_X0_checkMoved : GoodIn wsX0_giveUp (wsV RX0 146 RX0 yX0_checkMoved wsX0_checkMoved) := goodIn_app (goodIn_of _ (by decide +kernel)) ggX0_giveUp_X0_checkMoved
set_option maxRecDepth 20000 in
theorem ggX0_giveUp_X0_firstKeyOf : GoodIn wsX0_giveUp wsX0_firstKeyOf := goodIn_r _ [31, 32, 33, 34, 5, 35, 36, 9, 10, 11, 12, 13, 60, 61, 62, 63, 64, 65, 66, 67, 68, 69, 70, 71, 72, 73, 74, 75] (by decide +kernel) (by decide +kernel)
set_option maxRecDepth 20000 in
theorem gX0_giveUp_X0_firstKeyOf : GoodIn wsX0_giveUp (wsV RX0 139 RX0 yX0_firstKeyOf wsX0_firstKeyOf) := goodIn_app (goodIn_of _ (by decide +kernel)) ggX0_giveUp_X0_firstKeyOf
set_option maxRecDepth 20000 in
theorem ggX0_giveUp_X0_lastKeyOf : GoodIn wsX0_giveUp wsX0_lastKeyOf := goodIn_r _ [35, 36, 9, 10, 11, 5, 12, 13, 60, 61, 62, 63, 64, 65, 66, 67, 68, 69, 70, 71, 72, 73, 74, 75] (by decide +kernel) (by decide +kernel)
set_option maxRecDepth 20000 in
theorem gX0_giveUp_X0_lastKeyOf : GoodIn wsX0_giveUp (wsV RX0 96 RX0 yX0_lastKeyOf wsX0_lastKeyOf) := goodIn_app (goodIn_of _ (by decide +kernel)) ggX0_giveUp_X0_lastKeyOf
set_option maxRecDepth 20000 in
theorem ggX0_giveUp_X0_countRows : GoodIn wsX0_giveUp wsX0_countRows := goodIn_r _ [40, 41, 42, 43, 5, 44, 45, 46, 47, 48, 49, 50, 51, 60, 61, 62, 63, 64, 65, 66, 67, 68, 69, 70, 71, 72, 73, 74, 75] (by decide +kernel) (by decide +kernel)
set_option maxRecDepth 20000 in
theorem gX0_giveUp_X0_countRows : GoodIn wsX0_giveUp (wsV RX0 142 RX0 yX0_countRows wsX0_countRows) := goodIn_app (goodIn_of _ (by decide +kernel)) ggX0_giveUp_X0_countRows
set_option maxRecDepth 20000 in
theorem ggX0_giveUp_X0_dropRows : GoodIn wsX0_giveUp wsX0_dropRows := goodIn_r _ [55, 32, 33, 34, 5, 35, 36, 9, 10, 11, 12, 13, 28, 29, 30, 31, 56, 57, 58, 59, 45, 46, 47, 48, 49, 50, 51, 60, 61, 62, 63, 64, 65, 66, 67, 68, 69, 70, 71, 72, 73, 74, 75] (by decide +kernel) (by decide +kernel)
set_option maxRecDepth 20000 in
theorem gX0_giveUp_X0_dropRows : GoodIn wsX0_giveUp (wsV RX0 160 RX0 yX0_dropRows wsX0_dropRows) := goodIn_app (goodIn_of _ (by decide +kernel)) ggX0_giveUp_X0_dropRows
theorem dX0_giveUp_0 : decode cX0_giveUp 0 = .ok (.aload_n 0, 1) := by decide +kernel
theorem dX0_giveUp_1 : decode cX0_giveUp 1 = .ok (.iload_n 1, 1) := by decide +kernel
theorem dX0_giveUp_2 : decode cX0_giveUp 2 = .ok (.invokevirtual 114, 3) := by decide +kernel
theorem dX0_giveUp_5 : decode cX0_giveUp 5 = .ok (.aload_n 0, 1) := by decide +kernel
theorem dX0_giveUp_6 : decode cX0_giveUp 6 = .ok (.iload_n 1, 1) := by decide +kernel
theorem dX0_giveUp_7 : decode cX0_giveUp 7 = .ok (.invokevirtual 146, 3) := by decide +kernel
theorem dX0_giveUp_10 : decode cX0_giveUp 10 = .ok (.aload_n 0, 1) := by decide +kernel
theorem dX0_giveUp_11 : decode cX0_giveUp 11 = .ok (.getfield 19, 3) := by decide +kernel
theorem dX0_giveUp_14 : decode cX0_giveUp 14 = .ok (.iload_n 1, 1) := by decide +kernel
theorem dX0_giveUp_15 : decode cX0_giveUp 15 = .ok (.iaload, 1) := by decide +kernel
theorem dX0_giveUp_16 : decode cX0_giveUp 16 = .ok (.istore_n 2, 1) := by decide +kernel
theorem dX0_giveUp_17 : decode cX0_giveUp 17 = .ok (.aload_n 0, 1) := by decide +kernel
theorem dX0_giveUp_18 : decode cX0_giveUp 18 = .ok (.iload_n 2, 1) := by decide +kernel
theorem dX0_giveUp_19 : decode cX0_giveUp 19 = .ok (.aload_n 0, 1) := by decide +kernel
theorem dX0_giveUp_20 : decode cX0_giveUp 20 = .ok (.iload_n 1, 1) := by decide +kernel
theorem dX0_giveUp_21 : decode cX0_giveUp 21 = .ok (.invokevirtual 139, 3) := by decide +kernel
theorem dX0_giveUp_24 : decode cX0_giveUp 24 = .ok (.aload_n 0, 1) := by decide +kernel
theorem dX0_giveUp_25 : decode cX0_giveUp 25 = .ok (.iload_n 1, 1) := by decide +kernel
theorem dX0_giveUp_26 : decode cX0_giveUp 26 = .ok (.invokevirtual 96, 3) := by decide +kernel
theorem dX0_giveUp_29 : decode cX0_giveUp 29 = .ok (.invokevirtual 142, 3) := by decide +kernel
theorem dX0_giveUp_32 : decode cX0_giveUp 32 = .ok (.istore_n 3, 1) := by decide +kernel
theorem dX0_giveUp_33 : decode cX0_giveUp 33 = .ok (.aload_n 0, 1) := by decide +kernel
theorem dX0_giveUp_34 : decode cX0_giveUp 34 = .ok (.iload_n 2, 1) := by decide +kernel
theorem dX0_giveUp_35 : decode cX0_giveUp 35 = .ok (.iload_n 1, 1) := by decide +kernel
theorem dX0_giveUp_36 : decode cX0_giveUp 36 = .ok (.invokevirtual 160, 3) := by decide +kernel
theorem dX0_giveUp_39 : decode cX0_giveUp 39 = .ok (.aload_n 0, 1) := by decide +kernel
theorem dX0_giveUp_40 : decode cX0_giveUp 40 = .ok (.getfield 19, 3) := by decide +kernel
theorem dX0_giveUp_43 : decode cX0_giveUp 43 = .ok (.iload_n 1, 1) := by decide +kernel
theorem dX0_giveUp_44 : decode cX0_giveUp 44 = .ok (.iconst (-1), 1) := by decide +kernel
theorem dX0_giveUp_45 : decode cX0_giveUp 45 = .ok (.iastore, 1) := by decide +kernel
theorem dX0_giveUp_46 : decode cX0_giveUp 46 = .ok (.iload_n 3, 1) := by decide +kernel
theorem dX0_giveUp_47 : decode cX0_giveUp 47 = .ok (.ireturn, 1) := by decide +kernel
theorem dX0_ranges_0 : decode cX0_ranges 0 = .ok (.aload_n 0, 1) := by decide +kernel
theorem dX0_ranges_1 : decode cX0_ranges 1 = .ok (.getfield 49, 3) := by decide +kernel
theorem dX0_ranges_4 : decode cX0_ranges 4 = .ok (.ireturn, 1) := by decide +kernel
set_option maxRecDepth 20000 in
theorem ggX0_rangeOf_X0_checkKey : GoodIn wsX0_rangeOf wsX0_checkKey := goodIn_ca (goodIn_r _ [4, 5, 6, 7, 8, 3, 9] (by decide +kernel) (by decide +kernel)) (goodIn_sub (fun _ h => List.mem_cons_of_mem _ (List.mem_append_right _ h)) (by decide +kernel))
set_option maxRecDepth 20000 in
theorem gX0_rangeOf_X0_checkKey : GoodIn wsX0_rangeOf (va_wsS RX0 53 yX0_checkKey wsX0_checkKey) := goodIn_app (goodIn_of _ (by decide +kernel)) ggX0_rangeOf_X0_checkKey
set_option maxRecDepth 20000 in
theorem ggX0_rangeOf_X0_rangeHolding : GoodIn wsX0_rangeOf wsX0_rangeHolding := goodIn_r _ [13, 14, 15, 16, 17, 3, 18, 19, 20, 21, 22, 23, 24, 25, 26, 27, 28, 29, 30, 31, 32, 33, 34, 35, 36, 37, 38, 39] (by decide +kernel) (by decide +kernel)
set_option maxRecDepth 20000 in
theorem gX0_rangeOf_X0_rangeHolding : GoodIn wsX0_rangeOf (wsV RX0 93 RX0 yX0_rangeHolding wsX0_rangeHolding) := goodIn_app (goodIn_of _ (by decide +kernel)) ggX0_rangeOf_X0_rangeHolding
theorem dX0_rangeOf_0 : decode cX0_rangeOf 0 = .ok (.iload_n 1, 1) := by decide +kernel
theorem dX0_rangeOf_1 : decode cX0_rangeOf 1 = .ok (.invokestatic 53, 3) := by decide +kernel
theorem dX0_rangeOf_4 : decode cX0_rangeOf 4 = .ok (.aload_n 0, 1) := by decide +kernel
theorem dX0_rangeOf_5 : decode cX0_rangeOf 5 = .ok (.iload_n 1, 1) := by decide +kernel
theorem dX0_rangeOf_6 : decode cX0_rangeOf 6 = .ok (.invokevirtual 93, 3) := by decide +kernel
theorem dX0_rangeOf_9 : decode cX0_rangeOf 9 = .ok (.ireturn, 1) := by decide +kernel
set_option maxRecDepth 20000 in
theorem ggX0_shardOf_X0_checkRange : GoodIn wsX0_shardOf wsX0_checkRange := goodIn_ca (goodIn_r _ [6, 7, 8, 9, 10, 11, 5, 12, 13, 14, 15, 16, 17, 18, 19, 20, 21, 22, 23, 24, 25, 26, 27, 28, 29] (by decide +kernel) (by decide +kernel)) (goodIn_sub (fun _ h => List.mem_cons_of_mem _ (List.mem_append_right _ h)) (by decide +kernel))
set_option maxRecDepth 20000 in
theorem gX0_shardOf_X0_checkRange : GoodIn wsX0_shardOf (wsV RX0 114 RX0 yX0_checkRange wsX0_checkRange) := goodIn_app (goodIn_of _ (by decide +kernel)) ggX0_shardOf_X0_checkRange
theorem dX0_shardOf_0 : decode cX0_shardOf 0 = .ok (.aload_n 0, 1) := by decide +kernel
theorem dX0_shardOf_1 : decode cX0_shardOf 1 = .ok (.iload_n 1, 1) := by decide +kernel
theorem dX0_shardOf_2 : decode cX0_shardOf 2 = .ok (.invokevirtual 114, 3) := by decide +kernel
theorem dX0_shardOf_5 : decode cX0_shardOf 5 = .ok (.aload_n 0, 1) := by decide +kernel
theorem dX0_shardOf_6 : decode cX0_shardOf 6 = .ok (.getfield 16, 3) := by decide +kernel
theorem dX0_shardOf_9 : decode cX0_shardOf 9 = .ok (.iload_n 1, 1) := by decide +kernel
theorem dX0_shardOf_10 : decode cX0_shardOf 10 = .ok (.iaload, 1) := by decide +kernel
theorem dX0_shardOf_11 : decode cX0_shardOf 11 = .ok (.ireturn, 1) := by decide +kernel
set_option maxRecDepth 20000 in
theorem ggX0_rows_X0_checkShard : GoodIn wsX0_rows wsX0_checkShard := goodIn_ca (goodIn_r _ [4, 5, 6, 7, 8, 3, 9] (by decide +kernel) (by decide +kernel)) (goodIn_sub (fun _ h => List.mem_cons_of_mem _ (List.mem_append_right _ h)) (by decide +kernel))
set_option maxRecDepth 20000 in
theorem gX0_rows_X0_checkShard : GoodIn wsX0_rows (va_wsS RX0 132 yX0_checkShard wsX0_checkShard) := goodIn_app (goodIn_of _ (by decide +kernel)) ggX0_rows_X0_checkShard
set_option maxRecDepth 20000 in
theorem ggX0_rows_X0_countRows : GoodIn wsX0_rows wsX0_countRows := goodIn_r _ [13, 14, 15, 16, 3, 17, 18, 7, 8, 9, 19, 20, 21, 22, 23, 24, 25, 26, 27, 28, 29, 30, 31, 32, 33, 34, 35, 36, 37] (by decide +kernel) (by decide +kernel)
set_option maxRecDepth 20000 in
theorem gX0_rows_X0_countRows : GoodIn wsX0_rows (wsV RX0 142 RX0 yX0_countRows wsX0_countRows) := goodIn_app (goodIn_of _ (by decide +kernel)) ggX0_rows_X0_countRows
theorem dX0_rows_0 : decode cX0_rows 0 = .ok (.iload_n 1, 1) := by decide +kernel
theorem dX0_rows_1 : decode cX0_rows 1 = .ok (.invokestatic 132, 3) := by decide +kernel
theorem dX0_rows_4 : decode cX0_rows 4 = .ok (.aload_n 0, 1) := by decide +kernel
theorem dX0_rows_5 : decode cX0_rows 5 = .ok (.iload_n 1, 1) := by decide +kernel
theorem dX0_rows_6 : decode cX0_rows 6 = .ok (.iconst 0, 1) := by decide +kernel
theorem dX0_rows_7 : decode cX0_rows 7 = .ok (.bipush 99, 2) := by decide +kernel
theorem dX0_rows_9 : decode cX0_rows 9 = .ok (.invokevirtual 142, 3) := by decide +kernel
theorem dX0_rows_12 : decode cX0_rows 12 = .ok (.ireturn, 1) := by decide +kernel
set_option maxRecDepth 20000 in
theorem ggX0_fix_X0_read : GoodIn wsX0_fix wsX0_read := goodIn_r _ [11, 12, 13, 14, 10, 15, 16, 17, 18, 19, 20, 21, 22, 23, 24, 25, 26, 27, 28, 29, 30, 31, 32, 33, 34, 35, 36, 37, 38, 39, 40, 41, 45, 46, 47, 48, 49, 50, 51, 52, 53, 54, 55, 56, 57, 58, 59, 60] (by decide +kernel) (by decide +kernel)
set_option maxRecDepth 20000 in
theorem gX0_fix_X0_read : GoodIn wsX0_fix (wsV RX0 83 RX0 yX0_read wsX0_read) := goodIn_app (goodIn_of _ (by decide +kernel)) ggX0_fix_X0_read
set_option maxRecDepth 20000 in
theorem ggX0_fix_X0_districtOf : GoodIn wsX0_fix wsX0_districtOf := goodIn_r _ [44] (by decide +kernel) (by decide +kernel)
set_option maxRecDepth 20000 in
theorem gX0_fix_X0_districtOf : GoodIn wsX0_fix (va_wsS RX0 90 yX0_districtOf wsX0_districtOf) := goodIn_app (goodIn_of _ (by decide +kernel)) ggX0_fix_X0_districtOf
theorem dX0_fix_0 : decode cX0_fix 0 = .ok (.aload_n 0, 1) := by decide +kernel
theorem dX0_fix_1 : decode cX0_fix 1 = .ok (.getfield 163, 3) := by decide +kernel
theorem dX0_fix_4 : decode cX0_fix 4 = .ok (.ifCond .eq 13, 3) := by decide +kernel
theorem dX0_fix_7 : decode cX0_fix 7 = .ok (.new 64, 3) := by decide +kernel
theorem dX0_fix_10 : decode cX0_fix 10 = .ok (.dup, 1) := by decide +kernel
theorem dX0_fix_11 : decode cX0_fix 11 = .ok (.ldc 167, 2) := by decide +kernel
theorem dX0_fix_13 : decode cX0_fix 13 = .ok (.invokespecial 68, 3) := by decide +kernel
theorem dX0_fix_16 : decode cX0_fix 16 = .ok (.athrow, 1) := by decide +kernel
theorem dX0_fix_17 : decode cX0_fix 17 = .ok (.iconst 0, 1) := by decide +kernel
theorem dX0_fix_18 : decode cX0_fix 18 = .ok (.istore_n 1, 1) := by decide +kernel
theorem dX0_fix_19 : decode cX0_fix 19 = .ok (.iload_n 1, 1) := by decide +kernel
theorem dX0_fix_20 : decode cX0_fix 20 = .ok (.bipush 100, 2) := by decide +kernel
theorem dX0_fix_22 : decode cX0_fix 22 = .ok (.if_icmp .ge 23, 3) := by decide +kernel
theorem dX0_fix_25 : decode cX0_fix 25 = .ok (.aload_n 0, 1) := by decide +kernel
theorem dX0_fix_26 : decode cX0_fix 26 = .ok (.getfield 22, 3) := by decide +kernel
theorem dX0_fix_29 : decode cX0_fix 29 = .ok (.iload_n 1, 1) := by decide +kernel
theorem dX0_fix_30 : decode cX0_fix 30 = .ok (.aload_n 0, 1) := by decide +kernel
theorem dX0_fix_31 : decode cX0_fix 31 = .ok (.iload_n 1, 1) := by decide +kernel
theorem dX0_fix_32 : decode cX0_fix 32 = .ok (.invokevirtual 83, 3) := by decide +kernel
theorem dX0_fix_35 : decode cX0_fix 35 = .ok (.invokestatic 90, 3) := by decide +kernel
theorem dX0_fix_38 : decode cX0_fix 38 = .ok (.iastore, 1) := by decide +kernel
theorem dX0_fix_39 : decode cX0_fix 39 = .ok (.iinc 1 1, 3) := by decide +kernel
theorem dX0_fix_42 : decode cX0_fix 42 = .ok (.goto (-23), 3) := by decide +kernel
theorem dX0_fix_45 : decode cX0_fix 45 = .ok (.aload_n 0, 1) := by decide +kernel
theorem dX0_fix_46 : decode cX0_fix 46 = .ok (.iconst 1, 1) := by decide +kernel
theorem dX0_fix_47 : decode cX0_fix 47 = .ok (.putfield 163, 3) := by decide +kernel
theorem dX0_fix_50 : decode cX0_fix 50 = .ok (.aload_n 0, 1) := by decide +kernel
theorem dX0_fix_51 : decode cX0_fix 51 = .ok (.dup, 1) := by decide +kernel
theorem dX0_fix_52 : decode cX0_fix 52 = .ok (.getfield 169, 3) := by decide +kernel
theorem dX0_fix_55 : decode cX0_fix 55 = .ok (.iconst 1, 1) := by decide +kernel
theorem dX0_fix_56 : decode cX0_fix 56 = .ok (.iadd, 1) := by decide +kernel
theorem dX0_fix_57 : decode cX0_fix 57 = .ok (.putfield 169, 3) := by decide +kernel
theorem dX0_fix_60 : decode cX0_fix 60 = .ok (.aload_n 0, 1) := by decide +kernel
theorem dX0_fix_61 : decode cX0_fix 61 = .ok (.getfield 71, 3) := by decide +kernel
theorem dX0_fix_64 : decode cX0_fix 64 = .ok (.ireturn, 1) := by decide +kernel
set_option maxRecDepth 20000 in
theorem ggX0_onRoll_X0_checkKey : GoodIn wsX0_onRoll wsX0_checkKey := goodIn_ca (goodIn_r _ [6, 7, 8, 9, 10, 5, 11] (by decide +kernel) (by decide +kernel)) (goodIn_sub (fun _ h => List.mem_cons_of_mem _ (List.mem_append_right _ h)) (by decide +kernel))
set_option maxRecDepth 20000 in
theorem gX0_onRoll_X0_checkKey : GoodIn wsX0_onRoll (va_wsS RX0 53 yX0_checkKey wsX0_checkKey) := goodIn_app (goodIn_of _ (by decide +kernel)) ggX0_onRoll_X0_checkKey
theorem dX0_onRoll_0 : decode cX0_onRoll 0 = .ok (.iload_n 1, 1) := by decide +kernel
theorem dX0_onRoll_1 : decode cX0_onRoll 1 = .ok (.invokestatic 53, 3) := by decide +kernel
theorem dX0_onRoll_4 : decode cX0_onRoll 4 = .ok (.aload_n 0, 1) := by decide +kernel
theorem dX0_onRoll_5 : decode cX0_onRoll 5 = .ok (.getfield 163, 3) := by decide +kernel
theorem dX0_onRoll_8 : decode cX0_onRoll 8 = .ok (.ifCond .eq 12, 3) := by decide +kernel
theorem dX0_onRoll_11 : decode cX0_onRoll 11 = .ok (.aload_n 0, 1) := by decide +kernel
theorem dX0_onRoll_12 : decode cX0_onRoll 12 = .ok (.getfield 22, 3) := by decide +kernel
theorem dX0_onRoll_15 : decode cX0_onRoll 15 = .ok (.iload_n 1, 1) := by decide +kernel
theorem dX0_onRoll_16 : decode cX0_onRoll 16 = .ok (.iaload, 1) := by decide +kernel
theorem dX0_onRoll_17 : decode cX0_onRoll 17 = .ok (.goto 4, 3) := by decide +kernel
theorem dX0_onRoll_20 : decode cX0_onRoll 20 = .ok (.iconst (-1), 1) := by decide +kernel
theorem dX0_onRoll_21 : decode cX0_onRoll 21 = .ok (.ireturn, 1) := by decide +kernel
set_option maxRecDepth 20000 in
theorem ggX0_send_X0_checkKey : GoodIn wsX0_send wsX0_checkKey := goodIn_ca (goodIn_r _ [15, 16, 17, 18, 19, 14, 20] (by decide +kernel) (by decide +kernel)) (goodIn_sub (fun _ h => List.mem_cons_of_mem _ (List.mem_append_right _ h)) (by decide +kernel))
set_option maxRecDepth 20000 in
theorem gX0_send_X0_checkKey : GoodIn wsX0_send (va_wsS RX0 53 yX0_checkKey wsX0_checkKey) := goodIn_app (goodIn_of _ (by decide +kernel)) ggX0_send_X0_checkKey
set_option maxRecDepth 20000 in
theorem ggX0_send_X0_checkMember : GoodIn wsX0_send wsX0_checkMember := goodIn_ca (goodIn_r _ [24, 1, 2, 25, 26, 27, 14, 28, 29, 30, 31, 32, 33, 34, 35, 36, 37, 38, 39, 40, 41, 42, 43, 44, 45, 46, 47, 48, 49, 50, 51, 52, 53, 54, 55, 56, 57, 58, 59, 18, 19, 20, 72, 73, 74, 75, 76, 77, 78, 79, 80, 81, 82, 83, 84, 85, 86, 87] (by decide +kernel) (by decide +kernel)) (goodIn_sub (fun _ h => List.mem_cons_of_mem _ (List.mem_append_left _ (List.mem_append_right _ h))) (by decide +kernel))
set_option maxRecDepth 20000 in
theorem gX0_send_X0_checkMember : GoodIn wsX0_send (wsV RX0 80 RX0 yX0_checkMember wsX0_checkMember) := goodIn_app (goodIn_of _ (by decide +kernel)) ggX0_send_X0_checkMember
set_option maxRecDepth 20000 in
theorem ggX0_send_X0_latestBallotTo : GoodIn wsX0_send wsX0_latestBallotTo := goodIn_r _ [63, 6, 7, 64, 65, 66, 14, 67, 3, 8, 9, 68, 69, 70, 71, 72, 73, 74, 75, 76, 77, 78, 79, 80, 81, 82, 83, 84, 85, 86, 87] (by decide +kernel) (by decide +kernel)
set_option maxRecDepth 20000 in
theorem gX0_send_X0_latestBallotTo : GoodIn wsX0_send (wsV RX0 174 RX0 yX0_latestBallotTo wsX0_latestBallotTo) := goodIn_app (goodIn_of _ (by decide +kernel)) ggX0_send_X0_latestBallotTo
set_option maxRecDepth 20000 in
theorem ggX0_send_X0_isBallot : GoodIn wsX0_send wsX0_isBallot := goodIn_r _ [71, 6, 72, 73, 74, 75, 76, 77, 78, 79, 80, 81, 82, 83, 84, 85, 86, 87] (by decide +kernel) (by decide +kernel)
set_option maxRecDepth 20000 in
theorem gX0_send_X0_isBallot : GoodIn wsX0_send (wsV RX0 177 RX0 yX0_isBallot wsX0_isBallot) := goodIn_app (goodIn_of _ (by decide +kernel)) ggX0_send_X0_isBallot
set_option maxRecDepth 20000 in
theorem ggX0_send_X0_read : GoodIn wsX0_send wsX0_read := goodIn_r _ [32, 33, 34, 35, 14, 36, 37, 38, 39, 40, 41, 42, 43, 44, 45, 46, 47, 48, 49, 50, 51, 52, 53, 54, 55, 56, 57, 58, 59, 18, 19, 20, 72, 73, 74, 75, 76, 77, 78, 79, 80, 81, 82, 83, 84, 85, 86, 87] (by decide +kernel) (by decide +kernel)
set_option maxRecDepth 20000 in
theorem gX0_send_X0_read : GoodIn wsX0_send (wsV RX0 83 RX0 yX0_read wsX0_read) := goodIn_app (goodIn_of _ (by decide +kernel)) ggX0_send_X0_read
theorem dX0_send_0 : decode cX0_send 0 = .ok (.iload_n 1, 1) := by decide +kernel
theorem dX0_send_1 : decode cX0_send 1 = .ok (.invokestatic 53, 3) := by decide +kernel
theorem dX0_send_4 : decode cX0_send 4 = .ok (.aload_n 0, 1) := by decide +kernel
theorem dX0_send_5 : decode cX0_send 5 = .ok (.getfield 163, 3) := by decide +kernel
theorem dX0_send_8 : decode cX0_send 8 = .ok (.ifCond .eq 13, 3) := by decide +kernel
theorem dX0_send_11 : decode cX0_send 11 = .ok (.aload_n 0, 1) := by decide +kernel
theorem dX0_send_12 : decode cX0_send 12 = .ok (.getfield 22, 3) := by decide +kernel
theorem dX0_send_15 : decode cX0_send 15 = .ok (.iload_n 1, 1) := by decide +kernel
theorem dX0_send_16 : decode cX0_send 16 = .ok (.iaload, 1) := by decide +kernel
theorem dX0_send_17 : decode cX0_send 17 = .ok (.iconst (-1), 1) := by decide +kernel
theorem dX0_send_18 : decode cX0_send 18 = .ok (.if_icmp .ne 13, 3) := by decide +kernel
theorem dX0_send_21 : decode cX0_send 21 = .ok (.new 64, 3) := by decide +kernel
theorem dX0_send_24 : decode cX0_send 24 = .ok (.dup, 1) := by decide +kernel
theorem dX0_send_25 : decode cX0_send 25 = .ok (.ldc 172, 2) := by decide +kernel
theorem dX0_send_27 : decode cX0_send 27 = .ok (.invokespecial 68, 3) := by decide +kernel
theorem dX0_send_30 : decode cX0_send 30 = .ok (.athrow, 1) := by decide +kernel
theorem dX0_send_31 : decode cX0_send 31 = .ok (.aload_n 0, 1) := by decide +kernel
theorem dX0_send_32 : decode cX0_send 32 = .ok (.iload_n 1, 1) := by decide +kernel
theorem dX0_send_33 : decode cX0_send 33 = .ok (.invokevirtual 80, 3) := by decide +kernel
theorem dX0_send_36 : decode cX0_send 36 = .ok (.aload_n 0, 1) := by decide +kernel
theorem dX0_send_37 : decode cX0_send 37 = .ok (.iload_n 1, 1) := by decide +kernel
theorem dX0_send_38 : decode cX0_send 38 = .ok (.invokevirtual 174, 3) := by decide +kernel
theorem dX0_send_41 : decode cX0_send 41 = .ok (.istore_n 2, 1) := by decide +kernel
theorem dX0_send_42 : decode cX0_send 42 = .ok (.aload_n 0, 1) := by decide +kernel
theorem dX0_send_43 : decode cX0_send 43 = .ok (.iload_n 2, 1) := by decide +kernel
theorem dX0_send_44 : decode cX0_send 44 = .ok (.invokevirtual 177, 3) := by decide +kernel
theorem dX0_send_47 : decode cX0_send 47 = .ok (.ifCond .eq 23, 3) := by decide +kernel
theorem dX0_send_50 : decode cX0_send 50 = .ok (.aload_n 0, 1) := by decide +kernel
theorem dX0_send_51 : decode cX0_send 51 = .ok (.getfield 37, 3) := by decide +kernel
theorem dX0_send_54 : decode cX0_send 54 = .ok (.iload_n 2, 1) := by decide +kernel
theorem dX0_send_55 : decode cX0_send 55 = .ok (.iaload, 1) := by decide +kernel
theorem dX0_send_56 : decode cX0_send 56 = .ok (.iconst 2, 1) := by decide +kernel
theorem dX0_send_57 : decode cX0_send 57 = .ok (.if_icmp .ne 13, 3) := by decide +kernel
theorem dX0_send_60 : decode cX0_send 60 = .ok (.new 64, 3) := by decide +kernel
theorem dX0_send_63 : decode cX0_send 63 = .ok (.dup, 1) := by decide +kernel
theorem dX0_send_64 : decode cX0_send 64 = .ok (.ldc 180, 2) := by decide +kernel
theorem dX0_send_66 : decode cX0_send 66 = .ok (.invokespecial 68, 3) := by decide +kernel
theorem dX0_send_69 : decode cX0_send 69 = .ok (.athrow, 1) := by decide +kernel
theorem dX0_send_70 : decode cX0_send 70 = .ok (.aload_n 0, 1) := by decide +kernel
theorem dX0_send_71 : decode cX0_send 71 = .ok (.getfield 182, 3) := by decide +kernel
theorem dX0_send_74 : decode cX0_send 74 = .ok (.bipush 60, 2) := by decide +kernel
theorem dX0_send_76 : decode cX0_send 76 = .ok (.if_icmp .lt 13, 3) := by decide +kernel
theorem dX0_send_79 : decode cX0_send 79 = .ok (.new 64, 3) := by decide +kernel
theorem dX0_send_82 : decode cX0_send 82 = .ok (.dup, 1) := by decide +kernel
theorem dX0_send_83 : decode cX0_send 83 = .ok (.ldc 185, 2) := by decide +kernel
theorem dX0_send_85 : decode cX0_send 85 = .ok (.invokespecial 68, 3) := by decide +kernel
theorem dX0_send_88 : decode cX0_send 88 = .ok (.athrow, 1) := by decide +kernel
theorem dX0_send_89 : decode cX0_send 89 = .ok (.aload_n 0, 1) := by decide +kernel
theorem dX0_send_90 : decode cX0_send 90 = .ok (.iload_n 2, 1) := by decide +kernel
theorem dX0_send_91 : decode cX0_send 91 = .ok (.invokevirtual 177, 3) := by decide +kernel
theorem dX0_send_94 : decode cX0_send 94 = .ok (.ifCond .eq 10, 3) := by decide +kernel
theorem dX0_send_97 : decode cX0_send 97 = .ok (.aload_n 0, 1) := by decide +kernel
theorem dX0_send_98 : decode cX0_send 98 = .ok (.getfield 37, 3) := by decide +kernel
theorem dX0_send_101 : decode cX0_send 101 = .ok (.iload_n 2, 1) := by decide +kernel
theorem dX0_send_102 : decode cX0_send 102 = .ok (.iconst 1, 1) := by decide +kernel
theorem dX0_send_103 : decode cX0_send 103 = .ok (.iastore, 1) := by decide +kernel
theorem dX0_send_104 : decode cX0_send 104 = .ok (.aload_n 0, 1) := by decide +kernel
theorem dX0_send_105 : decode cX0_send 105 = .ok (.getfield 182, 3) := by decide +kernel
theorem dX0_send_108 : decode cX0_send 108 = .ok (.istore_n 3, 1) := by decide +kernel
theorem dX0_send_109 : decode cX0_send 109 = .ok (.aload_n 0, 1) := by decide +kernel
theorem dX0_send_110 : decode cX0_send 110 = .ok (.getfield 25, 3) := by decide +kernel
theorem dX0_send_113 : decode cX0_send 113 = .ok (.iload_n 3, 1) := by decide +kernel
theorem dX0_send_114 : decode cX0_send 114 = .ok (.iload_n 1, 1) := by decide +kernel
theorem dX0_send_115 : decode cX0_send 115 = .ok (.iastore, 1) := by decide +kernel
theorem dX0_send_116 : decode cX0_send 116 = .ok (.aload_n 0, 1) := by decide +kernel
theorem dX0_send_117 : decode cX0_send 117 = .ok (.getfield 28, 3) := by decide +kernel
theorem dX0_send_120 : decode cX0_send 120 = .ok (.iload_n 3, 1) := by decide +kernel
theorem dX0_send_121 : decode cX0_send 121 = .ok (.aload_n 0, 1) := by decide +kernel
theorem dX0_send_122 : decode cX0_send 122 = .ok (.getfield 169, 3) := by decide +kernel
theorem dX0_send_125 : decode cX0_send 125 = .ok (.iastore, 1) := by decide +kernel
theorem dX0_send_126 : decode cX0_send 126 = .ok (.aload_n 0, 1) := by decide +kernel
theorem dX0_send_127 : decode cX0_send 127 = .ok (.getfield 31, 3) := by decide +kernel
theorem dX0_send_130 : decode cX0_send 130 = .ok (.iload_n 3, 1) := by decide +kernel
theorem dX0_send_131 : decode cX0_send 131 = .ok (.aload_n 0, 1) := by decide +kernel
theorem dX0_send_132 : decode cX0_send 132 = .ok (.iload_n 1, 1) := by decide +kernel
theorem dX0_send_133 : decode cX0_send 133 = .ok (.invokevirtual 83, 3) := by decide +kernel
theorem dX0_send_136 : decode cX0_send 136 = .ok (.iastore, 1) := by decide +kernel
theorem dX0_send_137 : decode cX0_send 137 = .ok (.aload_n 0, 1) := by decide +kernel
theorem dX0_send_138 : decode cX0_send 138 = .ok (.getfield 34, 3) := by decide +kernel
theorem dX0_send_141 : decode cX0_send 141 = .ok (.iload_n 3, 1) := by decide +kernel
theorem dX0_send_142 : decode cX0_send 142 = .ok (.aload_n 0, 1) := by decide +kernel
theorem dX0_send_143 : decode cX0_send 143 = .ok (.getfield 22, 3) := by decide +kernel
theorem dX0_send_146 : decode cX0_send 146 = .ok (.iload_n 1, 1) := by decide +kernel
theorem dX0_send_147 : decode cX0_send 147 = .ok (.iaload, 1) := by decide +kernel
theorem dX0_send_148 : decode cX0_send 148 = .ok (.iastore, 1) := by decide +kernel
theorem dX0_send_149 : decode cX0_send 149 = .ok (.aload_n 0, 1) := by decide +kernel
theorem dX0_send_150 : decode cX0_send 150 = .ok (.getfield 37, 3) := by decide +kernel
theorem dX0_send_153 : decode cX0_send 153 = .ok (.iload_n 3, 1) := by decide +kernel
theorem dX0_send_154 : decode cX0_send 154 = .ok (.iconst 0, 1) := by decide +kernel
theorem dX0_send_155 : decode cX0_send 155 = .ok (.iastore, 1) := by decide +kernel
theorem dX0_send_156 : decode cX0_send 156 = .ok (.aload_n 0, 1) := by decide +kernel
theorem dX0_send_157 : decode cX0_send 157 = .ok (.dup, 1) := by decide +kernel
theorem dX0_send_158 : decode cX0_send 158 = .ok (.getfield 182, 3) := by decide +kernel
theorem dX0_send_161 : decode cX0_send 161 = .ok (.iconst 1, 1) := by decide +kernel
theorem dX0_send_162 : decode cX0_send 162 = .ok (.iadd, 1) := by decide +kernel
theorem dX0_send_163 : decode cX0_send 163 = .ok (.putfield 182, 3) := by decide +kernel
theorem dX0_send_166 : decode cX0_send 166 = .ok (.iload_n 3, 1) := by decide +kernel
theorem dX0_send_167 : decode cX0_send 167 = .ok (.ireturn, 1) := by decide +kernel
set_option maxRecDepth 20000 in
theorem ggX0_sentTo_X0_checkBallot : GoodIn wsX0_sentTo wsX0_checkBallot := goodIn_ca (goodIn_r _ [6, 7, 8, 9, 10, 11, 5, 12, 13, 14, 15, 16, 17, 18, 19, 20, 21, 22, 23, 24, 25, 26, 27, 28, 29] (by decide +kernel) (by decide +kernel)) (goodIn_sub (fun _ h => List.mem_cons_of_mem _ (List.mem_append_right _ h)) (by decide +kernel))
set_option maxRecDepth 20000 in
theorem gX0_sentTo_X0_checkBallot : GoodIn wsX0_sentTo (wsV RX0 187 RX0 yX0_checkBallot wsX0_checkBallot) := goodIn_app (goodIn_of _ (by decide +kernel)) ggX0_sentTo_X0_checkBallot
theorem dX0_sentTo_0 : decode cX0_sentTo 0 = .ok (.aload_n 0, 1) := by decide +kernel
theorem dX0_sentTo_1 : decode cX0_sentTo 1 = .ok (.iload_n 1, 1) := by decide +kernel
theorem dX0_sentTo_2 : decode cX0_sentTo 2 = .ok (.invokevirtual 187, 3) := by decide +kernel
theorem dX0_sentTo_5 : decode cX0_sentTo 5 = .ok (.aload_n 0, 1) := by decide +kernel
theorem dX0_sentTo_6 : decode cX0_sentTo 6 = .ok (.getfield 31, 3) := by decide +kernel
theorem dX0_sentTo_9 : decode cX0_sentTo 9 = .ok (.iload_n 1, 1) := by decide +kernel
theorem dX0_sentTo_10 : decode cX0_sentTo 10 = .ok (.iaload, 1) := by decide +kernel
theorem dX0_sentTo_11 : decode cX0_sentTo 11 = .ok (.ireturn, 1) := by decide +kernel
set_option maxRecDepth 20000 in
theorem ggX0_giveBack_X0_checkBallot : GoodIn wsX0_giveBack wsX0_checkBallot := goodIn_ca (goodIn_r _ [10, 11, 12, 13, 14, 15, 9, 16, 17, 30, 31, 32, 33, 34, 35, 36, 37, 38, 39, 40, 41, 42, 43, 44, 45] (by decide +kernel) (by decide +kernel)) (goodIn_sub (fun _ h => List.mem_cons_of_mem _ (List.mem_append_left _ (List.mem_append_right _ h))) (by decide +kernel))
set_option maxRecDepth 20000 in
theorem gX0_giveBack_X0_checkBallot : GoodIn wsX0_giveBack (wsV RX0 187 RX0 yX0_checkBallot wsX0_checkBallot) := goodIn_app (goodIn_of _ (by decide +kernel)) ggX0_giveBack_X0_checkBallot
set_option maxRecDepth 20000 in
theorem ggX0_giveBack_X0_checkChoice : GoodIn wsX0_giveBack wsX0_checkChoice := goodIn_ca (goodIn_r _ [20, 21, 22] (by decide +kernel) (by decide +kernel)) (goodIn_sub (fun _ h => List.mem_cons_of_mem _ (List.mem_append_right _ h)) (by decide +kernel))
set_option maxRecDepth 20000 in
theorem gX0_giveBack_X0_checkChoice : GoodIn wsX0_giveBack (va_wsS RX0 190 yX0_checkChoice wsX0_checkChoice) := goodIn_app (goodIn_of _ (by decide +kernel)) ggX0_giveBack_X0_checkChoice
set_option maxRecDepth 20000 in
theorem ggX0_giveBack_X0_isOfOpenVote : GoodIn wsX0_giveBack wsX0_isOfOpenVote := goodIn_r _ [26, 27, 28, 29, 13, 14, 15, 9, 16, 17, 30, 31, 32, 33, 34, 35, 36, 37, 38, 39, 40, 41, 42, 43, 44, 45] (by decide +kernel) (by decide +kernel)
set_option maxRecDepth 20000 in
theorem gX0_giveBack_X0_isOfOpenVote : GoodIn wsX0_giveBack (wsV RX0 195 RX0 yX0_isOfOpenVote wsX0_isOfOpenVote) := goodIn_app (goodIn_of _ (by decide +kernel)) ggX0_giveBack_X0_isOfOpenVote
theorem dX0_giveBack_0 : decode cX0_giveBack 0 = .ok (.aload_n 0, 1) := by decide +kernel
theorem dX0_giveBack_1 : decode cX0_giveBack 1 = .ok (.iload_n 1, 1) := by decide +kernel
theorem dX0_giveBack_2 : decode cX0_giveBack 2 = .ok (.invokevirtual 187, 3) := by decide +kernel
theorem dX0_giveBack_5 : decode cX0_giveBack 5 = .ok (.iload_n 2, 1) := by decide +kernel
theorem dX0_giveBack_6 : decode cX0_giveBack 6 = .ok (.invokestatic 190, 3) := by decide +kernel
theorem dX0_giveBack_9 : decode cX0_giveBack 9 = .ok (.aload_n 0, 1) := by decide +kernel
theorem dX0_giveBack_10 : decode cX0_giveBack 10 = .ok (.getfield 37, 3) := by decide +kernel
theorem dX0_giveBack_13 : decode cX0_giveBack 13 = .ok (.iload_n 1, 1) := by decide +kernel
theorem dX0_giveBack_14 : decode cX0_giveBack 14 = .ok (.iaload, 1) := by decide +kernel
theorem dX0_giveBack_15 : decode cX0_giveBack 15 = .ok (.ifCond .eq 13, 3) := by decide +kernel
theorem dX0_giveBack_18 : decode cX0_giveBack 18 = .ok (.new 64, 3) := by decide +kernel
theorem dX0_giveBack_21 : decode cX0_giveBack 21 = .ok (.dup, 1) := by decide +kernel
theorem dX0_giveBack_22 : decode cX0_giveBack 22 = .ok (.ldc 193, 2) := by decide +kernel
theorem dX0_giveBack_24 : decode cX0_giveBack 24 = .ok (.invokespecial 68, 3) := by decide +kernel
theorem dX0_giveBack_27 : decode cX0_giveBack 27 = .ok (.athrow, 1) := by decide +kernel
theorem dX0_giveBack_28 : decode cX0_giveBack 28 = .ok (.aload_n 0, 1) := by decide +kernel
theorem dX0_giveBack_29 : decode cX0_giveBack 29 = .ok (.iload_n 1, 1) := by decide +kernel
theorem dX0_giveBack_30 : decode cX0_giveBack 30 = .ok (.invokevirtual 195, 3) := by decide +kernel
theorem dX0_giveBack_33 : decode cX0_giveBack 33 = .ok (.ifCond .ne 13, 3) := by decide +kernel
theorem dX0_giveBack_36 : decode cX0_giveBack 36 = .ok (.new 64, 3) := by decide +kernel
theorem dX0_giveBack_39 : decode cX0_giveBack 39 = .ok (.dup, 1) := by decide +kernel
theorem dX0_giveBack_40 : decode cX0_giveBack 40 = .ok (.ldc 198, 2) := by decide +kernel
theorem dX0_giveBack_42 : decode cX0_giveBack 42 = .ok (.invokespecial 68, 3) := by decide +kernel
theorem dX0_giveBack_45 : decode cX0_giveBack 45 = .ok (.athrow, 1) := by decide +kernel
theorem dX0_giveBack_46 : decode cX0_giveBack 46 = .ok (.aload_n 0, 1) := by decide +kernel
theorem dX0_giveBack_47 : decode cX0_giveBack 47 = .ok (.getfield 37, 3) := by decide +kernel
theorem dX0_giveBack_50 : decode cX0_giveBack 50 = .ok (.iload_n 1, 1) := by decide +kernel
theorem dX0_giveBack_51 : decode cX0_giveBack 51 = .ok (.iconst 2, 1) := by decide +kernel
theorem dX0_giveBack_52 : decode cX0_giveBack 52 = .ok (.iastore, 1) := by decide +kernel
theorem dX0_giveBack_53 : decode cX0_giveBack 53 = .ok (.aload_n 0, 1) := by decide +kernel
theorem dX0_giveBack_54 : decode cX0_giveBack 54 = .ok (.getfield 40, 3) := by decide +kernel
theorem dX0_giveBack_57 : decode cX0_giveBack 57 = .ok (.iload_n 1, 1) := by decide +kernel
theorem dX0_giveBack_58 : decode cX0_giveBack 58 = .ok (.iload_n 2, 1) := by decide +kernel
theorem dX0_giveBack_59 : decode cX0_giveBack 59 = .ok (.iastore, 1) := by decide +kernel
theorem dX0_giveBack_60 : decode cX0_giveBack 60 = .ok (.aload_n 0, 1) := by decide +kernel
theorem dX0_giveBack_61 : decode cX0_giveBack 61 = .ok (.getfield 34, 3) := by decide +kernel
theorem dX0_giveBack_64 : decode cX0_giveBack 64 = .ok (.iload_n 1, 1) := by decide +kernel
theorem dX0_giveBack_65 : decode cX0_giveBack 65 = .ok (.iaload, 1) := by decide +kernel
theorem dX0_giveBack_66 : decode cX0_giveBack 66 = .ok (.ireturn, 1) := by decide +kernel
set_option maxRecDepth 20000 in
theorem ggX0_stateOf_X0_checkBallot : GoodIn wsX0_stateOf wsX0_checkBallot := goodIn_ca (goodIn_r _ [6, 7, 8, 9, 10, 11, 5, 12, 13, 14, 15, 16, 17, 18, 19, 20, 21, 22, 23, 24, 25, 26, 27, 28, 29] (by decide +kernel) (by decide +kernel)) (goodIn_sub (fun _ h => List.mem_cons_of_mem _ (List.mem_append_right _ h)) (by decide +kernel))
set_option maxRecDepth 20000 in
theorem gX0_stateOf_X0_checkBallot : GoodIn wsX0_stateOf (wsV RX0 187 RX0 yX0_checkBallot wsX0_checkBallot) := goodIn_app (goodIn_of _ (by decide +kernel)) ggX0_stateOf_X0_checkBallot
theorem dX0_stateOf_0 : decode cX0_stateOf 0 = .ok (.aload_n 0, 1) := by decide +kernel
theorem dX0_stateOf_1 : decode cX0_stateOf 1 = .ok (.iload_n 1, 1) := by decide +kernel
theorem dX0_stateOf_2 : decode cX0_stateOf 2 = .ok (.invokevirtual 187, 3) := by decide +kernel
theorem dX0_stateOf_5 : decode cX0_stateOf 5 = .ok (.aload_n 0, 1) := by decide +kernel
theorem dX0_stateOf_6 : decode cX0_stateOf 6 = .ok (.getfield 37, 3) := by decide +kernel
theorem dX0_stateOf_9 : decode cX0_stateOf 9 = .ok (.iload_n 1, 1) := by decide +kernel
theorem dX0_stateOf_10 : decode cX0_stateOf 10 = .ok (.iaload, 1) := by decide +kernel
theorem dX0_stateOf_11 : decode cX0_stateOf 11 = .ok (.ireturn, 1) := by decide +kernel
set_option maxRecDepth 20000 in
theorem ggX0_counted_X0_checkDistrict : GoodIn wsX0_counted wsX0_checkDistrict := goodIn_ca (goodIn_r _ [8, 9, 10] (by decide +kernel) (by decide +kernel)) (goodIn_sub (fun _ h => List.mem_cons_of_mem _ (List.mem_append_left _ (List.mem_append_right _ h))) (by decide +kernel))
set_option maxRecDepth 20000 in
theorem gX0_counted_X0_checkDistrict : GoodIn wsX0_counted (va_wsS RX0 87 yX0_checkDistrict wsX0_checkDistrict) := goodIn_app (goodIn_of _ (by decide +kernel)) ggX0_counted_X0_checkDistrict
set_option maxRecDepth 20000 in
theorem ggX0_counted_X0_checkChoice : GoodIn wsX0_counted wsX0_checkChoice := goodIn_ca (goodIn_r _ [13, 14, 15] (by decide +kernel) (by decide +kernel)) (goodIn_sub (fun _ h => List.mem_cons_of_mem _ (List.mem_append_right _ h)) (by decide +kernel))
set_option maxRecDepth 20000 in
theorem gX0_counted_X0_checkChoice : GoodIn wsX0_counted (va_wsS RX0 190 yX0_checkChoice wsX0_checkChoice) := goodIn_app (goodIn_of _ (by decide +kernel)) ggX0_counted_X0_checkChoice
theorem dX0_counted_0 : decode cX0_counted 0 = .ok (.iload_n 1, 1) := by decide +kernel
theorem dX0_counted_1 : decode cX0_counted 1 = .ok (.invokestatic 87, 3) := by decide +kernel
theorem dX0_counted_4 : decode cX0_counted 4 = .ok (.iload_n 2, 1) := by decide +kernel
theorem dX0_counted_5 : decode cX0_counted 5 = .ok (.invokestatic 190, 3) := by decide +kernel
theorem dX0_counted_8 : decode cX0_counted 8 = .ok (.iconst 0, 1) := by decide +kernel
theorem dX0_counted_9 : decode cX0_counted 9 = .ok (.istore_n 3, 1) := by decide +kernel
theorem dX0_counted_10 : decode cX0_counted 10 = .ok (.iconst 0, 1) := by decide +kernel
theorem dX0_counted_11 : decode cX0_counted 11 = .ok (.istore 4, 2) := by decide +kernel
theorem dX0_counted_13 : decode cX0_counted 13 = .ok (.iload 4, 2) := by decide +kernel
theorem dX0_counted_15 : decode cX0_counted 15 = .ok (.aload_n 0, 1) := by decide +kernel
theorem dX0_counted_16 : decode cX0_counted 16 = .ok (.getfield 182, 3) := by decide +kernel
theorem dX0_counted_19 : decode cX0_counted 19 = .ok (.if_icmp .ge 45, 3) := by decide +kernel
theorem dX0_counted_22 : decode cX0_counted 22 = .ok (.aload_n 0, 1) := by decide +kernel
theorem dX0_counted_23 : decode cX0_counted 23 = .ok (.getfield 37, 3) := by decide +kernel
theorem dX0_counted_26 : decode cX0_counted 26 = .ok (.iload 4, 2) := by decide +kernel
theorem dX0_counted_28 : decode cX0_counted 28 = .ok (.iaload, 1) := by decide +kernel
theorem dX0_counted_29 : decode cX0_counted 29 = .ok (.iconst 2, 1) := by decide +kernel
theorem dX0_counted_30 : decode cX0_counted 30 = .ok (.if_icmp .ne 28, 3) := by decide +kernel
theorem dX0_counted_33 : decode cX0_counted 33 = .ok (.aload_n 0, 1) := by decide +kernel
theorem dX0_counted_34 : decode cX0_counted 34 = .ok (.getfield 34, 3) := by decide +kernel
theorem dX0_counted_37 : decode cX0_counted 37 = .ok (.iload 4, 2) := by decide +kernel
theorem dX0_counted_39 : decode cX0_counted 39 = .ok (.iaload, 1) := by decide +kernel
theorem dX0_counted_40 : decode cX0_counted 40 = .ok (.iload_n 1, 1) := by decide +kernel
theorem dX0_counted_41 : decode cX0_counted 41 = .ok (.if_icmp .ne 17, 3) := by decide +kernel
theorem dX0_counted_44 : decode cX0_counted 44 = .ok (.aload_n 0, 1) := by decide +kernel
theorem dX0_counted_45 : decode cX0_counted 45 = .ok (.getfield 40, 3) := by decide +kernel
theorem dX0_counted_48 : decode cX0_counted 48 = .ok (.iload 4, 2) := by decide +kernel
theorem dX0_counted_50 : decode cX0_counted 50 = .ok (.iaload, 1) := by decide +kernel
theorem dX0_counted_51 : decode cX0_counted 51 = .ok (.iload_n 2, 1) := by decide +kernel
theorem dX0_counted_52 : decode cX0_counted 52 = .ok (.if_icmp .ne 6, 3) := by decide +kernel
theorem dX0_counted_55 : decode cX0_counted 55 = .ok (.iinc 3 1, 3) := by decide +kernel
theorem dX0_counted_58 : decode cX0_counted 58 = .ok (.iinc 4 1, 3) := by decide +kernel
theorem dX0_counted_61 : decode cX0_counted 61 = .ok (.goto (-48), 3) := by decide +kernel
theorem dX0_counted_64 : decode cX0_counted 64 = .ok (.iload_n 3, 1) := by decide +kernel
theorem dX0_counted_65 : decode cX0_counted 65 = .ok (.ireturn, 1) := by decide +kernel
set_option maxRecDepth 20000 in
theorem ggX0_close_X0_isOfOpenVote : GoodIn wsX0_close wsX0_isOfOpenVote := goodIn_r _ [10, 3, 11, 12, 13, 14, 15, 9, 16, 4, 17, 18, 19, 20, 21, 22, 23, 24, 25, 26, 27, 28, 29, 30, 31, 32] (by decide +kernel) (by decide +kernel)
set_option maxRecDepth 20000 in
theorem gX0_close_X0_isOfOpenVote : GoodIn wsX0_close (wsV RX0 195 RX0 yX0_isOfOpenVote wsX0_isOfOpenVote) := goodIn_app (goodIn_of _ (by decide +kernel)) ggX0_close_X0_isOfOpenVote
theorem dX0_close_0 : decode cX0_close 0 = .ok (.aload_n 0, 1) := by decide +kernel
theorem dX0_close_1 : decode cX0_close 1 = .ok (.getfield 163, 3) := by decide +kernel
theorem dX0_close_4 : decode cX0_close 4 = .ok (.ifCond .ne 13, 3) := by decide +kernel
theorem dX0_close_7 : decode cX0_close 7 = .ok (.new 64, 3) := by decide +kernel
theorem dX0_close_10 : decode cX0_close 10 = .ok (.dup, 1) := by decide +kernel
theorem dX0_close_11 : decode cX0_close 11 = .ok (.ldc 200, 2) := by decide +kernel
theorem dX0_close_13 : decode cX0_close 13 = .ok (.invokespecial 68, 3) := by decide +kernel
theorem dX0_close_16 : decode cX0_close 16 = .ok (.athrow, 1) := by decide +kernel
theorem dX0_close_17 : decode cX0_close 17 = .ok (.iconst 0, 1) := by decide +kernel
theorem dX0_close_18 : decode cX0_close 18 = .ok (.istore_n 1, 1) := by decide +kernel
theorem dX0_close_19 : decode cX0_close 19 = .ok (.iconst 0, 1) := by decide +kernel
theorem dX0_close_20 : decode cX0_close 20 = .ok (.istore_n 2, 1) := by decide +kernel
theorem dX0_close_21 : decode cX0_close 21 = .ok (.iload_n 2, 1) := by decide +kernel
theorem dX0_close_22 : decode cX0_close 22 = .ok (.aload_n 0, 1) := by decide +kernel
theorem dX0_close_23 : decode cX0_close 23 = .ok (.getfield 182, 3) := by decide +kernel
theorem dX0_close_26 : decode cX0_close 26 = .ok (.if_icmp .ge 29, 3) := by decide +kernel
theorem dX0_close_29 : decode cX0_close 29 = .ok (.aload_n 0, 1) := by decide +kernel
theorem dX0_close_30 : decode cX0_close 30 = .ok (.iload_n 2, 1) := by decide +kernel
theorem dX0_close_31 : decode cX0_close 31 = .ok (.invokevirtual 195, 3) := by decide +kernel
theorem dX0_close_34 : decode cX0_close 34 = .ok (.ifCond .eq 15, 3) := by decide +kernel
theorem dX0_close_37 : decode cX0_close 37 = .ok (.aload_n 0, 1) := by decide +kernel
theorem dX0_close_38 : decode cX0_close 38 = .ok (.getfield 37, 3) := by decide +kernel
theorem dX0_close_41 : decode cX0_close 41 = .ok (.iload_n 2, 1) := by decide +kernel
theorem dX0_close_42 : decode cX0_close 42 = .ok (.iaload, 1) := by decide +kernel
theorem dX0_close_43 : decode cX0_close 43 = .ok (.ifCond .ne 6, 3) := by decide +kernel
theorem dX0_close_46 : decode cX0_close 46 = .ok (.iinc 1 1, 3) := by decide +kernel
theorem dX0_close_49 : decode cX0_close 49 = .ok (.iinc 2 1, 3) := by decide +kernel
theorem dX0_close_52 : decode cX0_close 52 = .ok (.goto (-31), 3) := by decide +kernel
theorem dX0_close_55 : decode cX0_close 55 = .ok (.aload_n 0, 1) := by decide +kernel
theorem dX0_close_56 : decode cX0_close 56 = .ok (.iconst 0, 1) := by decide +kernel
theorem dX0_close_57 : decode cX0_close 57 = .ok (.putfield 163, 3) := by decide +kernel
theorem dX0_close_60 : decode cX0_close 60 = .ok (.iload_n 1, 1) := by decide +kernel
theorem dX0_close_61 : decode cX0_close 61 = .ok (.ireturn, 1) := by decide +kernel
set_option maxRecDepth 20000 in
theorem ggX0_rowOf_X0_isShard : GoodIn wsX0_rowOf wsX0_isShard := goodIn_r _ [5] (by decide +kernel) (by decide +kernel)
set_option maxRecDepth 20000 in
theorem gX0_rowOf_X0_isShard : GoodIn wsX0_rowOf (va_wsS RX0 202 yX0_isShard wsX0_isShard) := goodIn_app (goodIn_of _ (by decide +kernel)) ggX0_rowOf_X0_isShard
set_option maxRecDepth 20000 in
theorem ggX0_rowOf_X0_isKey : GoodIn wsX0_rowOf wsX0_isKey := goodIn_r _ [8] (by decide +kernel) (by decide +kernel)
set_option maxRecDepth 20000 in
theorem gX0_rowOf_X0_isKey : GoodIn wsX0_rowOf (va_wsS RX0 205 yX0_isKey wsX0_isKey) := goodIn_app (goodIn_of _ (by decide +kernel)) ggX0_rowOf_X0_isKey
theorem dX0_rowOf_0 : decode cX0_rowOf 0 = .ok (.iload_n 1, 1) := by decide +kernel
theorem dX0_rowOf_1 : decode cX0_rowOf 1 = .ok (.invokestatic 202, 3) := by decide +kernel
theorem dX0_rowOf_4 : decode cX0_rowOf 4 = .ok (.ifCond .eq 24, 3) := by decide +kernel
theorem dX0_rowOf_7 : decode cX0_rowOf 7 = .ok (.iload_n 2, 1) := by decide +kernel
theorem dX0_rowOf_8 : decode cX0_rowOf 8 = .ok (.invokestatic 205, 3) := by decide +kernel
theorem dX0_rowOf_11 : decode cX0_rowOf 11 = .ok (.ifCond .eq 17, 3) := by decide +kernel
theorem dX0_rowOf_14 : decode cX0_rowOf 14 = .ok (.aload_n 0, 1) := by decide +kernel
theorem dX0_rowOf_15 : decode cX0_rowOf 15 = .ok (.getfield 9, 3) := by decide +kernel
theorem dX0_rowOf_18 : decode cX0_rowOf 18 = .ok (.iload_n 1, 1) := by decide +kernel
theorem dX0_rowOf_19 : decode cX0_rowOf 19 = .ok (.bipush 100, 2) := by decide +kernel
theorem dX0_rowOf_21 : decode cX0_rowOf 21 = .ok (.imul, 1) := by decide +kernel
theorem dX0_rowOf_22 : decode cX0_rowOf 22 = .ok (.iload_n 2, 1) := by decide +kernel
theorem dX0_rowOf_23 : decode cX0_rowOf 23 = .ok (.iadd, 1) := by decide +kernel
theorem dX0_rowOf_24 : decode cX0_rowOf 24 = .ok (.iaload, 1) := by decide +kernel
theorem dX0_rowOf_25 : decode cX0_rowOf 25 = .ok (.goto 4, 3) := by decide +kernel
theorem dX0_rowOf_28 : decode cX0_rowOf 28 = .ok (.iconst (-1), 1) := by decide +kernel
theorem dX0_rowOf_29 : decode cX0_rowOf 29 = .ok (.ireturn, 1) := by decide +kernel
set_option maxRecDepth 20000 in
theorem ggX0_putRow_X0_isShard : GoodIn wsX0_putRow wsX0_isShard := goodIn_r _ [5] (by decide +kernel) (by decide +kernel)
set_option maxRecDepth 20000 in
theorem gX0_putRow_X0_isShard : GoodIn wsX0_putRow (va_wsS RX0 202 yX0_isShard wsX0_isShard) := goodIn_app (goodIn_of _ (by decide +kernel)) ggX0_putRow_X0_isShard
set_option maxRecDepth 20000 in
theorem ggX0_putRow_X0_isKey : GoodIn wsX0_putRow wsX0_isKey := goodIn_r _ [8] (by decide +kernel) (by decide +kernel)
set_option maxRecDepth 20000 in
theorem gX0_putRow_X0_isKey : GoodIn wsX0_putRow (va_wsS RX0 205 yX0_isKey wsX0_isKey) := goodIn_app (goodIn_of _ (by decide +kernel)) ggX0_putRow_X0_isKey
theorem dX0_putRow_0 : decode cX0_putRow 0 = .ok (.iload_n 1, 1) := by decide +kernel
theorem dX0_putRow_1 : decode cX0_putRow 1 = .ok (.invokestatic 202, 3) := by decide +kernel
theorem dX0_putRow_4 : decode cX0_putRow 4 = .ok (.ifCond .eq 22, 3) := by decide +kernel
theorem dX0_putRow_7 : decode cX0_putRow 7 = .ok (.iload_n 2, 1) := by decide +kernel
theorem dX0_putRow_8 : decode cX0_putRow 8 = .ok (.invokestatic 205, 3) := by decide +kernel
theorem dX0_putRow_11 : decode cX0_putRow 11 = .ok (.ifCond .eq 15, 3) := by decide +kernel
theorem dX0_putRow_14 : decode cX0_putRow 14 = .ok (.aload_n 0, 1) := by decide +kernel
theorem dX0_putRow_15 : decode cX0_putRow 15 = .ok (.getfield 9, 3) := by decide +kernel
theorem dX0_putRow_18 : decode cX0_putRow 18 = .ok (.iload_n 1, 1) := by decide +kernel
theorem dX0_putRow_19 : decode cX0_putRow 19 = .ok (.bipush 100, 2) := by decide +kernel
theorem dX0_putRow_21 : decode cX0_putRow 21 = .ok (.imul, 1) := by decide +kernel
theorem dX0_putRow_22 : decode cX0_putRow 22 = .ok (.iload_n 2, 1) := by decide +kernel
theorem dX0_putRow_23 : decode cX0_putRow 23 = .ok (.iadd, 1) := by decide +kernel
theorem dX0_putRow_24 : decode cX0_putRow 24 = .ok (.iload_n 3, 1) := by decide +kernel
theorem dX0_putRow_25 : decode cX0_putRow 25 = .ok (.iastore, 1) := by decide +kernel
theorem dX0_putRow_26 : decode cX0_putRow 26 = .ok (.return_, 1) := by decide +kernel
set_option maxRecDepth 20000 in
theorem ggX0_read_X0_rangeHolding : GoodIn wsX0_read wsX0_rangeHolding := goodIn_r _ [5, 6, 7, 8, 9, 4, 10, 11, 12, 13, 14, 15, 32, 33, 34, 35, 36, 37, 38, 39, 40, 41, 42, 43, 44, 45, 46, 47] (by decide +kernel) (by decide +kernel)
set_option maxRecDepth 20000 in
theorem gX0_read_X0_rangeHolding : GoodIn wsX0_read (wsV RX0 93 RX0 yX0_rangeHolding wsX0_rangeHolding) := goodIn_app (goodIn_of _ (by decide +kernel)) ggX0_read_X0_rangeHolding
set_option maxRecDepth 20000 in
theorem ggX0_read_X0_homeOf : GoodIn wsX0_read wsX0_homeOf := goodIn_r _ [19, 20, 12, 13, 14, 4, 15, 6, 32, 33, 34, 35, 36, 37, 38, 39, 40, 41, 42, 43, 44, 45, 46, 47] (by decide +kernel) (by decide +kernel)
set_option maxRecDepth 20000 in
theorem gX0_read_X0_homeOf : GoodIn wsX0_read (wsV RX0 122 RX0 yX0_homeOf wsX0_homeOf) := goodIn_app (goodIn_of _ (by decide +kernel)) ggX0_read_X0_homeOf
set_option maxRecDepth 20000 in
theorem ggX0_read_X0_rowOf : GoodIn wsX0_read wsX0_rowOf := goodIn_r _ [24, 25, 26, 27, 4, 28, 29, 30, 31, 32, 33, 34, 35, 36, 37, 38, 39, 40, 41, 42, 43, 44, 45, 46, 47] (by decide +kernel) (by decide +kernel)
set_option maxRecDepth 20000 in
theorem gX0_read_X0_rowOf : GoodIn wsX0_read (wsV RX0 152 RX0 yX0_rowOf wsX0_rowOf) := goodIn_app (goodIn_of _ (by decide +kernel)) ggX0_read_X0_rowOf
theorem dX0_read_0 : decode cX0_read 0 = .ok (.aload_n 0, 1) := by decide +kernel
theorem dX0_read_1 : decode cX0_read 1 = .ok (.aload_n 0, 1) := by decide +kernel
theorem dX0_read_2 : decode cX0_read 2 = .ok (.aload_n 0, 1) := by decide +kernel
theorem dX0_read_3 : decode cX0_read 3 = .ok (.iload_n 1, 1) := by decide +kernel
theorem dX0_read_4 : decode cX0_read 4 = .ok (.invokevirtual 93, 3) := by decide +kernel
theorem dX0_read_7 : decode cX0_read 7 = .ok (.invokevirtual 122, 3) := by decide +kernel
theorem dX0_read_10 : decode cX0_read 10 = .ok (.iload_n 1, 1) := by decide +kernel
theorem dX0_read_11 : decode cX0_read 11 = .ok (.invokevirtual 152, 3) := by decide +kernel
theorem dX0_read_14 : decode cX0_read 14 = .ok (.ireturn, 1) := by decide +kernel
set_option maxRecDepth 20000 in
theorem ggX0_write_X0_rangeHolding : GoodIn wsX0_write wsX0_rangeHolding := goodIn_r _ [5, 6, 7, 8, 9, 4, 10, 11, 12, 13, 14, 15, 37, 38, 39, 40, 41, 42, 43, 44, 45, 46, 47, 48, 49, 50, 51, 52] (by decide +kernel) (by decide +kernel)
set_option maxRecDepth 20000 in
theorem gX0_write_X0_rangeHolding : GoodIn wsX0_write (wsV RX0 93 RX0 yX0_rangeHolding wsX0_rangeHolding) := goodIn_app (goodIn_of _ (by decide +kernel)) ggX0_write_X0_rangeHolding
set_option maxRecDepth 20000 in
theorem ggX0_write_X0_homeOf : GoodIn wsX0_write wsX0_homeOf := goodIn_r _ [19, 20, 12, 13, 14, 4, 15, 6, 37, 38, 39, 40, 41, 42, 43, 44, 45, 46, 47, 48, 49, 50, 51, 52] (by decide +kernel) (by decide +kernel)
set_option maxRecDepth 20000 in
theorem gX0_write_X0_homeOf : GoodIn wsX0_write (wsV RX0 122 RX0 yX0_homeOf wsX0_homeOf) := goodIn_app (goodIn_of _ (by decide +kernel)) ggX0_write_X0_homeOf
set_option maxRecDepth 20000 in
theorem ggX0_write_X0_putRow : GoodIn wsX0_write wsX0_putRow := goodIn_r _ [24, 25, 26, 27, 4, 28, 29, 30, 31, 37, 38, 39, 40, 41, 42, 43, 44, 45, 46, 47, 48, 49, 50, 51, 52] (by decide +kernel) (by decide +kernel)
set_option maxRecDepth 20000 in
theorem gX0_write_X0_putRow : GoodIn wsX0_write (wsV RX0 156 RX0 yX0_putRow wsX0_putRow) := goodIn_app (goodIn_of _ (by decide +kernel)) ggX0_write_X0_putRow
set_option maxRecDepth 20000 in
theorem ggX0_write_X0_targetOf : GoodIn wsX0_write wsX0_targetOf := goodIn_r _ [35, 36, 12, 13, 14, 4, 15, 6, 37, 38, 39, 40, 41, 42, 43, 44, 45, 46, 47, 48, 49, 50, 51, 52] (by decide +kernel) (by decide +kernel)
set_option maxRecDepth 20000 in
theorem gX0_write_X0_targetOf : GoodIn wsX0_write (wsV RX0 208 RX0 yX0_targetOf wsX0_targetOf) := goodIn_app (goodIn_of _ (by decide +kernel)) ggX0_write_X0_targetOf
theorem dX0_write_0 : decode cX0_write 0 = .ok (.aload_n 0, 1) := by decide +kernel
theorem dX0_write_1 : decode cX0_write 1 = .ok (.iload_n 1, 1) := by decide +kernel
theorem dX0_write_2 : decode cX0_write 2 = .ok (.invokevirtual 93, 3) := by decide +kernel
theorem dX0_write_5 : decode cX0_write 5 = .ok (.istore_n 3, 1) := by decide +kernel
theorem dX0_write_6 : decode cX0_write 6 = .ok (.aload_n 0, 1) := by decide +kernel
theorem dX0_write_7 : decode cX0_write 7 = .ok (.aload_n 0, 1) := by decide +kernel
theorem dX0_write_8 : decode cX0_write 8 = .ok (.iload_n 3, 1) := by decide +kernel
theorem dX0_write_9 : decode cX0_write 9 = .ok (.invokevirtual 122, 3) := by decide +kernel
theorem dX0_write_12 : decode cX0_write 12 = .ok (.iload_n 1, 1) := by decide +kernel
theorem dX0_write_13 : decode cX0_write 13 = .ok (.iload_n 2, 1) := by decide +kernel
theorem dX0_write_14 : decode cX0_write 14 = .ok (.invokevirtual 156, 3) := by decide +kernel
theorem dX0_write_17 : decode cX0_write 17 = .ok (.aload_n 0, 1) := by decide +kernel
theorem dX0_write_18 : decode cX0_write 18 = .ok (.aload_n 0, 1) := by decide +kernel
theorem dX0_write_19 : decode cX0_write 19 = .ok (.iload_n 3, 1) := by decide +kernel
theorem dX0_write_20 : decode cX0_write 20 = .ok (.invokevirtual 208, 3) := by decide +kernel
theorem dX0_write_23 : decode cX0_write 23 = .ok (.iload_n 1, 1) := by decide +kernel
theorem dX0_write_24 : decode cX0_write 24 = .ok (.iload_n 2, 1) := by decide +kernel
theorem dX0_write_25 : decode cX0_write 25 = .ok (.invokevirtual 156, 3) := by decide +kernel
theorem dX0_write_28 : decode cX0_write 28 = .ok (.return_, 1) := by decide +kernel
set_option maxRecDepth 20000 in
theorem ggX0_countRows_X0_rowOf : GoodIn wsX0_countRows wsX0_rowOf := goodIn_r _ [5, 6, 7, 8, 4, 9, 10, 11, 12, 13, 14, 15, 16, 17, 18, 19, 20, 21, 22, 23, 24, 25, 26, 27, 28] (by decide +kernel) (by decide +kernel)
set_option maxRecDepth 20000 in
theorem gX0_countRows_X0_rowOf : GoodIn wsX0_countRows (wsV RX0 152 RX0 yX0_rowOf wsX0_rowOf) := goodIn_app (goodIn_of _ (by decide +kernel)) ggX0_countRows_X0_rowOf
theorem dX0_countRows_0 : decode cX0_countRows 0 = .ok (.iconst 0, 1) := by decide +kernel
theorem dX0_countRows_1 : decode cX0_countRows 1 = .ok (.istore 4, 2) := by decide +kernel
theorem dX0_countRows_3 : decode cX0_countRows 3 = .ok (.iload_n 2, 1) := by decide +kernel
theorem dX0_countRows_4 : decode cX0_countRows 4 = .ok (.istore 5, 2) := by decide +kernel
theorem dX0_countRows_6 : decode cX0_countRows 6 = .ok (.iload 5, 2) := by decide +kernel
theorem dX0_countRows_8 : decode cX0_countRows 8 = .ok (.iload_n 3, 1) := by decide +kernel
theorem dX0_countRows_9 : decode cX0_countRows 9 = .ok (.if_icmp .gt 30, 3) := by decide +kernel
theorem dX0_countRows_12 : decode cX0_countRows 12 = .ok (.iload 5, 2) := by decide +kernel
theorem dX0_countRows_14 : decode cX0_countRows 14 = .ok (.bipush 100, 2) := by decide +kernel
theorem dX0_countRows_16 : decode cX0_countRows 16 = .ok (.if_icmp .ge 23, 3) := by decide +kernel
theorem dX0_countRows_19 : decode cX0_countRows 19 = .ok (.aload_n 0, 1) := by decide +kernel
theorem dX0_countRows_20 : decode cX0_countRows 20 = .ok (.iload_n 1, 1) := by decide +kernel
theorem dX0_countRows_21 : decode cX0_countRows 21 = .ok (.iload 5, 2) := by decide +kernel
theorem dX0_countRows_23 : decode cX0_countRows 23 = .ok (.invokevirtual 152, 3) := by decide +kernel
theorem dX0_countRows_26 : decode cX0_countRows 26 = .ok (.iconst (-1), 1) := by decide +kernel
theorem dX0_countRows_27 : decode cX0_countRows 27 = .ok (.if_icmp .eq 6, 3) := by decide +kernel
theorem dX0_countRows_30 : decode cX0_countRows 30 = .ok (.iinc 4 1, 3) := by decide +kernel
theorem dX0_countRows_33 : decode cX0_countRows 33 = .ok (.iinc 5 1, 3) := by decide +kernel
theorem dX0_countRows_36 : decode cX0_countRows 36 = .ok (.goto (-30), 3) := by decide +kernel
theorem dX0_countRows_39 : decode cX0_countRows 39 = .ok (.iload 4, 2) := by decide +kernel
theorem dX0_countRows_41 : decode cX0_countRows 41 = .ok (.ireturn, 1) := by decide +kernel
set_option maxRecDepth 20000 in
theorem ggX0_dropRows_X0_lastKeyOf : GoodIn wsX0_dropRows wsX0_lastKeyOf := goodIn_r _ [5, 6, 7, 8, 9, 4, 10, 11, 27, 28, 29, 30, 31, 32, 33, 34, 35, 36, 37, 38, 39, 40, 41, 42] (by decide +kernel) (by decide +kernel)
set_option maxRecDepth 20000 in
theorem gX0_dropRows_X0_lastKeyOf : GoodIn wsX0_dropRows (wsV RX0 96 RX0 yX0_lastKeyOf wsX0_lastKeyOf) := goodIn_app (goodIn_of _ (by decide +kernel)) ggX0_dropRows_X0_lastKeyOf
set_option maxRecDepth 20000 in
theorem ggX0_dropRows_X0_firstKeyOf : GoodIn wsX0_dropRows wsX0_firstKeyOf := goodIn_r _ [15, 1, 2, 3, 4, 5, 6, 7, 8, 9, 10, 11, 27, 28, 29, 30, 31, 32, 33, 34, 35, 36, 37, 38, 39, 40, 41, 42] (by decide +kernel) (by decide +kernel)
set_option maxRecDepth 20000 in
theorem gX0_dropRows_X0_firstKeyOf : GoodIn wsX0_dropRows (wsV RX0 139 RX0 yX0_firstKeyOf wsX0_firstKeyOf) := goodIn_app (goodIn_of _ (by decide +kernel)) ggX0_dropRows_X0_firstKeyOf
set_option maxRecDepth 20000 in
theorem ggX0_dropRows_X0_putRow : GoodIn wsX0_dropRows wsX0_putRow := goodIn_r _ [19, 20, 21, 22, 4, 23, 24, 25, 26, 27, 28, 29, 30, 31, 32, 33, 34, 35, 36, 37, 38, 39, 40, 41, 42] (by decide +kernel) (by decide +kernel)
set_option maxRecDepth 20000 in
theorem gX0_dropRows_X0_putRow : GoodIn wsX0_dropRows (wsV RX0 156 RX0 yX0_putRow wsX0_putRow) := goodIn_app (goodIn_of _ (by decide +kernel)) ggX0_dropRows_X0_putRow
theorem dX0_dropRows_0 : decode cX0_dropRows 0 = .ok (.aload_n 0, 1) := by decide +kernel
theorem dX0_dropRows_1 : decode cX0_dropRows 1 = .ok (.iload_n 2, 1) := by decide +kernel
theorem dX0_dropRows_2 : decode cX0_dropRows 2 = .ok (.invokevirtual 96, 3) := by decide +kernel
theorem dX0_dropRows_5 : decode cX0_dropRows 5 = .ok (.istore_n 3, 1) := by decide +kernel
theorem dX0_dropRows_6 : decode cX0_dropRows 6 = .ok (.aload_n 0, 1) := by decide +kernel
theorem dX0_dropRows_7 : decode cX0_dropRows 7 = .ok (.iload_n 2, 1) := by decide +kernel
theorem dX0_dropRows_8 : decode cX0_dropRows 8 = .ok (.invokevirtual 139, 3) := by decide +kernel
theorem dX0_dropRows_11 : decode cX0_dropRows 11 = .ok (.istore 4, 2) := by decide +kernel
theorem dX0_dropRows_13 : decode cX0_dropRows 13 = .ok (.iload 4, 2) := by decide +kernel
theorem dX0_dropRows_15 : decode cX0_dropRows 15 = .ok (.iload_n 3, 1) := by decide +kernel
theorem dX0_dropRows_16 : decode cX0_dropRows 16 = .ok (.if_icmp .gt 24, 3) := by decide +kernel
theorem dX0_dropRows_19 : decode cX0_dropRows 19 = .ok (.iload 4, 2) := by decide +kernel
theorem dX0_dropRows_21 : decode cX0_dropRows 21 = .ok (.bipush 100, 2) := by decide +kernel
theorem dX0_dropRows_23 : decode cX0_dropRows 23 = .ok (.if_icmp .ge 17, 3) := by decide +kernel
theorem dX0_dropRows_26 : decode cX0_dropRows 26 = .ok (.aload_n 0, 1) := by decide +kernel
theorem dX0_dropRows_27 : decode cX0_dropRows 27 = .ok (.iload_n 1, 1) := by decide +kernel
theorem dX0_dropRows_28 : decode cX0_dropRows 28 = .ok (.iload 4, 2) := by decide +kernel
theorem dX0_dropRows_30 : decode cX0_dropRows 30 = .ok (.iconst (-1), 1) := by decide +kernel
theorem dX0_dropRows_31 : decode cX0_dropRows 31 = .ok (.invokevirtual 156, 3) := by decide +kernel
theorem dX0_dropRows_34 : decode cX0_dropRows 34 = .ok (.iinc 4 1, 3) := by decide +kernel
theorem dX0_dropRows_37 : decode cX0_dropRows 37 = .ok (.goto (-24), 3) := by decide +kernel
theorem dX0_dropRows_40 : decode cX0_dropRows 40 = .ok (.return_, 1) := by decide +kernel
set_option maxRecDepth 20000 in
theorem ggX0_lowestKeyNotBrought_X0_homeOf : GoodIn wsX0_lowestKeyNotBrought wsX0_homeOf := goodIn_r _ [5, 6, 7, 8, 9, 4, 10, 11, 37, 38, 39, 40, 41, 42, 43, 44, 45, 46, 47, 48, 49, 50, 51, 52] (by decide +kernel) (by decide +kernel)
set_option maxRecDepth 20000 in
theorem gX0_lowestKeyNotBrought_X0_homeOf : GoodIn wsX0_lowestKeyNotBrought (wsV RX0 122 RX0 yX0_homeOf wsX0_homeOf) := goodIn_app (goodIn_of _ (by decide +kernel)) ggX0_lowestKeyNotBrought_X0_homeOf
set_option maxRecDepth 20000 in
theorem ggX0_lowestKeyNotBrought_X0_targetOf : GoodIn wsX0_lowestKeyNotBrought wsX0_targetOf := goodIn_r _ [15, 16, 7, 8, 9, 4, 10, 11, 37, 38, 39, 40, 41, 42, 43, 44, 45, 46, 47, 48, 49, 50, 51, 52] (by decide +kernel) (by decide +kernel)
set_option maxRecDepth 20000 in
theorem gX0_lowestKeyNotBrought_X0_targetOf : GoodIn wsX0_lowestKeyNotBrought (wsV RX0 208 RX0 yX0_targetOf wsX0_targetOf) := goodIn_app (goodIn_of _ (by decide +kernel)) ggX0_lowestKeyNotBrought_X0_targetOf
set_option maxRecDepth 20000 in
theorem ggX0_lowestKeyNotBrought_X0_lastKeyOf : GoodIn wsX0_lowestKeyNotBrought wsX0_lastKeyOf := goodIn_r _ [20, 21, 7, 8, 9, 4, 10, 11, 37, 38, 39, 40, 41, 42, 43, 44, 45, 46, 47, 48, 49, 50, 51, 52] (by decide +kernel) (by decide +kernel)
set_option maxRecDepth 20000 in
theorem gX0_lowestKeyNotBrought_X0_lastKeyOf : GoodIn wsX0_lowestKeyNotBrought (wsV RX0 96 RX0 yX0_lastKeyOf wsX0_lastKeyOf) := goodIn_app (goodIn_of _ (by decide +kernel)) ggX0_lowestKeyNotBrought_X0_lastKeyOf
set_option maxRecDepth 20000 in
theorem ggX0_lowestKeyNotBrought_X0_firstKeyOf : GoodIn wsX0_lowestKeyNotBrought wsX0_firstKeyOf := goodIn_r _ [25, 17, 18, 19, 4, 20, 21, 7, 8, 9, 10, 11, 37, 38, 39, 40, 41, 42, 43, 44, 45, 46, 47, 48, 49, 50, 51, 52] (by decide +kernel) (by decide +kernel)
set_option maxRecDepth 20000 in
theorem gX0_lowestKeyNotBrought_X0_firstKeyOf : GoodIn wsX0_lowestKeyNotBrought (wsV RX0 139 RX0 yX0_firstKeyOf wsX0_firstKeyOf) := goodIn_app (goodIn_of _ (by decide +kernel)) ggX0_lowestKeyNotBrought_X0_firstKeyOf
set_option maxRecDepth 20000 in
theorem ggX0_lowestKeyNotBrought_X0_rowOf : GoodIn wsX0_lowestKeyNotBrought wsX0_rowOf := goodIn_r _ [29, 30, 31, 32, 4, 33, 34, 35, 36, 37, 38, 39, 40, 41, 42, 43, 44, 45, 46, 47, 48, 49, 50, 51, 52] (by decide +kernel) (by decide +kernel)
set_option maxRecDepth 20000 in
theorem gX0_lowestKeyNotBrought_X0_rowOf : GoodIn wsX0_lowestKeyNotBrought (wsV RX0 152 RX0 yX0_rowOf wsX0_rowOf) := goodIn_app (goodIn_of _ (by decide +kernel)) ggX0_lowestKeyNotBrought_X0_rowOf
theorem dX0_lowestKeyNotBrought_0 : decode cX0_lowestKeyNotBrought 0 = .ok (.aload_n 0, 1) := by decide +kernel
theorem dX0_lowestKeyNotBrought_1 : decode cX0_lowestKeyNotBrought 1 = .ok (.iload_n 1, 1) := by decide +kernel
theorem dX0_lowestKeyNotBrought_2 : decode cX0_lowestKeyNotBrought 2 = .ok (.invokevirtual 122, 3) := by decide +kernel
theorem dX0_lowestKeyNotBrought_5 : decode cX0_lowestKeyNotBrought 5 = .ok (.istore_n 2, 1) := by decide +kernel
theorem dX0_lowestKeyNotBrought_6 : decode cX0_lowestKeyNotBrought 6 = .ok (.aload_n 0, 1) := by decide +kernel
theorem dX0_lowestKeyNotBrought_7 : decode cX0_lowestKeyNotBrought 7 = .ok (.iload_n 1, 1) := by decide +kernel
theorem dX0_lowestKeyNotBrought_8 : decode cX0_lowestKeyNotBrought 8 = .ok (.invokevirtual 208, 3) := by decide +kernel
theorem dX0_lowestKeyNotBrought_11 : decode cX0_lowestKeyNotBrought 11 = .ok (.istore_n 3, 1) := by decide +kernel
theorem dX0_lowestKeyNotBrought_12 : decode cX0_lowestKeyNotBrought 12 = .ok (.aload_n 0, 1) := by decide +kernel
theorem dX0_lowestKeyNotBrought_13 : decode cX0_lowestKeyNotBrought 13 = .ok (.iload_n 1, 1) := by decide +kernel
theorem dX0_lowestKeyNotBrought_14 : decode cX0_lowestKeyNotBrought 14 = .ok (.invokevirtual 96, 3) := by decide +kernel
theorem dX0_lowestKeyNotBrought_17 : decode cX0_lowestKeyNotBrought 17 = .ok (.istore 4, 2) := by decide +kernel
theorem dX0_lowestKeyNotBrought_19 : decode cX0_lowestKeyNotBrought 19 = .ok (.aload_n 0, 1) := by decide +kernel
theorem dX0_lowestKeyNotBrought_20 : decode cX0_lowestKeyNotBrought 20 = .ok (.iload_n 1, 1) := by decide +kernel
theorem dX0_lowestKeyNotBrought_21 : decode cX0_lowestKeyNotBrought 21 = .ok (.invokevirtual 139, 3) := by decide +kernel
theorem dX0_lowestKeyNotBrought_24 : decode cX0_lowestKeyNotBrought 24 = .ok (.istore 5, 2) := by decide +kernel
theorem dX0_lowestKeyNotBrought_26 : decode cX0_lowestKeyNotBrought 26 = .ok (.iload 5, 2) := by decide +kernel
theorem dX0_lowestKeyNotBrought_28 : decode cX0_lowestKeyNotBrought 28 = .ok (.iload 4, 2) := by decide +kernel
theorem dX0_lowestKeyNotBrought_30 : decode cX0_lowestKeyNotBrought 30 = .ok (.if_icmp .gt 41, 3) := by decide +kernel
theorem dX0_lowestKeyNotBrought_33 : decode cX0_lowestKeyNotBrought 33 = .ok (.iload 5, 2) := by decide +kernel
theorem dX0_lowestKeyNotBrought_35 : decode cX0_lowestKeyNotBrought 35 = .ok (.bipush 100, 2) := by decide +kernel
theorem dX0_lowestKeyNotBrought_37 : decode cX0_lowestKeyNotBrought 37 = .ok (.if_icmp .ge 34, 3) := by decide +kernel
theorem dX0_lowestKeyNotBrought_40 : decode cX0_lowestKeyNotBrought 40 = .ok (.aload_n 0, 1) := by decide +kernel
theorem dX0_lowestKeyNotBrought_41 : decode cX0_lowestKeyNotBrought 41 = .ok (.iload_n 2, 1) := by decide +kernel
theorem dX0_lowestKeyNotBrought_42 : decode cX0_lowestKeyNotBrought 42 = .ok (.iload 5, 2) := by decide +kernel
theorem dX0_lowestKeyNotBrought_44 : decode cX0_lowestKeyNotBrought 44 = .ok (.invokevirtual 152, 3) := by decide +kernel
theorem dX0_lowestKeyNotBrought_47 : decode cX0_lowestKeyNotBrought 47 = .ok (.iconst (-1), 1) := by decide +kernel
theorem dX0_lowestKeyNotBrought_48 : decode cX0_lowestKeyNotBrought 48 = .ok (.if_icmp .eq 17, 3) := by decide +kernel
theorem dX0_lowestKeyNotBrought_51 : decode cX0_lowestKeyNotBrought 51 = .ok (.aload_n 0, 1) := by decide +kernel
theorem dX0_lowestKeyNotBrought_52 : decode cX0_lowestKeyNotBrought 52 = .ok (.iload_n 3, 1) := by decide +kernel
theorem dX0_lowestKeyNotBrought_53 : decode cX0_lowestKeyNotBrought 53 = .ok (.iload 5, 2) := by decide +kernel
theorem dX0_lowestKeyNotBrought_55 : decode cX0_lowestKeyNotBrought 55 = .ok (.invokevirtual 152, 3) := by decide +kernel
theorem dX0_lowestKeyNotBrought_58 : decode cX0_lowestKeyNotBrought 58 = .ok (.iconst (-1), 1) := by decide +kernel
theorem dX0_lowestKeyNotBrought_59 : decode cX0_lowestKeyNotBrought 59 = .ok (.if_icmp .ne 6, 3) := by decide +kernel
theorem dX0_lowestKeyNotBrought_62 : decode cX0_lowestKeyNotBrought 62 = .ok (.iload 5, 2) := by decide +kernel
theorem dX0_lowestKeyNotBrought_64 : decode cX0_lowestKeyNotBrought 64 = .ok (.ireturn, 1) := by decide +kernel
theorem dX0_lowestKeyNotBrought_65 : decode cX0_lowestKeyNotBrought 65 = .ok (.iinc 5 1, 3) := by decide +kernel
theorem dX0_lowestKeyNotBrought_68 : decode cX0_lowestKeyNotBrought 68 = .ok (.goto (-42), 3) := by decide +kernel
theorem dX0_lowestKeyNotBrought_71 : decode cX0_lowestKeyNotBrought 71 = .ok (.iconst (-1), 1) := by decide +kernel
theorem dX0_lowestKeyNotBrought_72 : decode cX0_lowestKeyNotBrought 72 = .ok (.ireturn, 1) := by decide +kernel
theorem dX0_districtOf_0 : decode cX0_districtOf 0 = .ok (.iload_n 0, 1) := by decide +kernel
theorem dX0_districtOf_1 : decode cX0_districtOf 1 = .ok (.iconst (-1), 1) := by decide +kernel
theorem dX0_districtOf_2 : decode cX0_districtOf 2 = .ok (.if_icmp .ne 7, 3) := by decide +kernel
theorem dX0_districtOf_5 : decode cX0_districtOf 5 = .ok (.iconst (-1), 1) := by decide +kernel
theorem dX0_districtOf_6 : decode cX0_districtOf 6 = .ok (.goto 7, 3) := by decide +kernel
theorem dX0_districtOf_9 : decode cX0_districtOf 9 = .ok (.iload_n 0, 1) := by decide +kernel
theorem dX0_districtOf_10 : decode cX0_districtOf 10 = .ok (.bipush 10, 2) := by decide +kernel
theorem dX0_districtOf_12 : decode cX0_districtOf 12 = .ok (.idiv, 1) := by decide +kernel
theorem dX0_districtOf_13 : decode cX0_districtOf 13 = .ok (.ireturn, 1) := by decide +kernel
set_option maxRecDepth 20000 in
theorem ggX0_rangeHolding_X0_lastKeyOf : GoodIn wsX0_rangeHolding wsX0_lastKeyOf := goodIn_r _ [6, 7, 8, 9, 10, 5, 11, 1, 12, 13, 14, 15, 16, 17, 18, 19, 20, 21, 22, 23, 24, 25, 26, 27] (by decide +kernel) (by decide +kernel)
set_option maxRecDepth 20000 in
theorem gX0_rangeHolding_X0_lastKeyOf : GoodIn wsX0_rangeHolding (wsV RX0 96 RX0 yX0_lastKeyOf wsX0_lastKeyOf) := goodIn_app (goodIn_of _ (by decide +kernel)) ggX0_rangeHolding_X0_lastKeyOf
theorem dX0_rangeHolding_0 : decode cX0_rangeHolding 0 = .ok (.aload_n 0, 1) := by decide +kernel
theorem dX0_rangeHolding_1 : decode cX0_rangeHolding 1 = .ok (.getfield 49, 3) := by decide +kernel
theorem dX0_rangeHolding_4 : decode cX0_rangeHolding 4 = .ok (.iconst 1, 1) := by decide +kernel
theorem dX0_rangeHolding_5 : decode cX0_rangeHolding 5 = .ok (.isub, 1) := by decide +kernel
theorem dX0_rangeHolding_6 : decode cX0_rangeHolding 6 = .ok (.istore_n 2, 1) := by decide +kernel
theorem dX0_rangeHolding_7 : decode cX0_rangeHolding 7 = .ok (.iconst 0, 1) := by decide +kernel
theorem dX0_rangeHolding_8 : decode cX0_rangeHolding 8 = .ok (.istore_n 3, 1) := by decide +kernel
theorem dX0_rangeHolding_9 : decode cX0_rangeHolding 9 = .ok (.iload_n 3, 1) := by decide +kernel
theorem dX0_rangeHolding_10 : decode cX0_rangeHolding 10 = .ok (.iload_n 2, 1) := by decide +kernel
theorem dX0_rangeHolding_11 : decode cX0_rangeHolding 11 = .ok (.if_icmp .ge 20, 3) := by decide +kernel
theorem dX0_rangeHolding_14 : decode cX0_rangeHolding 14 = .ok (.iload_n 1, 1) := by decide +kernel
theorem dX0_rangeHolding_15 : decode cX0_rangeHolding 15 = .ok (.aload_n 0, 1) := by decide +kernel
theorem dX0_rangeHolding_16 : decode cX0_rangeHolding 16 = .ok (.iload_n 3, 1) := by decide +kernel
theorem dX0_rangeHolding_17 : decode cX0_rangeHolding 17 = .ok (.invokevirtual 96, 3) := by decide +kernel
theorem dX0_rangeHolding_20 : decode cX0_rangeHolding 20 = .ok (.if_icmp .gt 5, 3) := by decide +kernel
theorem dX0_rangeHolding_23 : decode cX0_rangeHolding 23 = .ok (.iload_n 3, 1) := by decide +kernel
theorem dX0_rangeHolding_24 : decode cX0_rangeHolding 24 = .ok (.ireturn, 1) := by decide +kernel
theorem dX0_rangeHolding_25 : decode cX0_rangeHolding 25 = .ok (.iinc 3 1, 3) := by decide +kernel
theorem dX0_rangeHolding_28 : decode cX0_rangeHolding 28 = .ok (.goto (-19), 3) := by decide +kernel
theorem dX0_rangeHolding_31 : decode cX0_rangeHolding 31 = .ok (.iload_n 2, 1) := by decide +kernel
theorem dX0_rangeHolding_32 : decode cX0_rangeHolding 32 = .ok (.ireturn, 1) := by decide +kernel
set_option maxRecDepth 20000 in
theorem ggX0_homeOf_X0_isRange : GoodIn wsX0_homeOf wsX0_isRange := goodIn_r _ [6, 7, 8, 9, 10, 11, 12, 13, 14, 15, 16, 17, 18, 19, 20, 21, 22, 23] (by decide +kernel) (by decide +kernel)
set_option maxRecDepth 20000 in
theorem gX0_homeOf_X0_isRange : GoodIn wsX0_homeOf (wsV RX0 117 RX0 yX0_isRange wsX0_isRange) := goodIn_app (goodIn_of _ (by decide +kernel)) ggX0_homeOf_X0_isRange
theorem dX0_homeOf_0 : decode cX0_homeOf 0 = .ok (.aload_n 0, 1) := by decide +kernel
theorem dX0_homeOf_1 : decode cX0_homeOf 1 = .ok (.iload_n 1, 1) := by decide +kernel
theorem dX0_homeOf_2 : decode cX0_homeOf 2 = .ok (.invokevirtual 117, 3) := by decide +kernel
theorem dX0_homeOf_5 : decode cX0_homeOf 5 = .ok (.ifCond .eq 12, 3) := by decide +kernel
theorem dX0_homeOf_8 : decode cX0_homeOf 8 = .ok (.aload_n 0, 1) := by decide +kernel
theorem dX0_homeOf_9 : decode cX0_homeOf 9 = .ok (.getfield 16, 3) := by decide +kernel
theorem dX0_homeOf_12 : decode cX0_homeOf 12 = .ok (.iload_n 1, 1) := by decide +kernel
theorem dX0_homeOf_13 : decode cX0_homeOf 13 = .ok (.iaload, 1) := by decide +kernel
theorem dX0_homeOf_14 : decode cX0_homeOf 14 = .ok (.goto 4, 3) := by decide +kernel
theorem dX0_homeOf_17 : decode cX0_homeOf 17 = .ok (.iconst (-1), 1) := by decide +kernel
theorem dX0_homeOf_18 : decode cX0_homeOf 18 = .ok (.ireturn, 1) := by decide +kernel
set_option maxRecDepth 20000 in
theorem ggX0_targetOf_X0_isRange : GoodIn wsX0_targetOf wsX0_isRange := goodIn_r _ [6, 7, 8, 9, 10, 11, 12, 13, 14, 15, 16, 17, 18, 19, 20, 21, 22, 23] (by decide +kernel) (by decide +kernel)
set_option maxRecDepth 20000 in
theorem gX0_targetOf_X0_isRange : GoodIn wsX0_targetOf (wsV RX0 117 RX0 yX0_isRange wsX0_isRange) := goodIn_app (goodIn_of _ (by decide +kernel)) ggX0_targetOf_X0_isRange
theorem dX0_targetOf_0 : decode cX0_targetOf 0 = .ok (.aload_n 0, 1) := by decide +kernel
theorem dX0_targetOf_1 : decode cX0_targetOf 1 = .ok (.iload_n 1, 1) := by decide +kernel
theorem dX0_targetOf_2 : decode cX0_targetOf 2 = .ok (.invokevirtual 117, 3) := by decide +kernel
theorem dX0_targetOf_5 : decode cX0_targetOf 5 = .ok (.ifCond .eq 12, 3) := by decide +kernel
theorem dX0_targetOf_8 : decode cX0_targetOf 8 = .ok (.aload_n 0, 1) := by decide +kernel
theorem dX0_targetOf_9 : decode cX0_targetOf 9 = .ok (.getfield 19, 3) := by decide +kernel
theorem dX0_targetOf_12 : decode cX0_targetOf 12 = .ok (.iload_n 1, 1) := by decide +kernel
theorem dX0_targetOf_13 : decode cX0_targetOf 13 = .ok (.iaload, 1) := by decide +kernel
theorem dX0_targetOf_14 : decode cX0_targetOf 14 = .ok (.goto 4, 3) := by decide +kernel
theorem dX0_targetOf_17 : decode cX0_targetOf 17 = .ok (.iconst (-1), 1) := by decide +kernel
theorem dX0_targetOf_18 : decode cX0_targetOf 18 = .ok (.ireturn, 1) := by decide +kernel
set_option maxRecDepth 20000 in
theorem ggX0_isMoved_X0_targetOf : GoodIn wsX0_isMoved wsX0_targetOf := goodIn_r _ [5, 6, 7, 8, 9, 4, 10, 11, 12, 13, 14, 15, 16, 17, 18, 19, 20, 21, 22, 23, 24, 25, 26, 27] (by decide +kernel) (by decide +kernel)
set_option maxRecDepth 20000 in
theorem gX0_isMoved_X0_targetOf : GoodIn wsX0_isMoved (wsV RX0 208 RX0 yX0_targetOf wsX0_targetOf) := goodIn_app (goodIn_of _ (by decide +kernel)) ggX0_isMoved_X0_targetOf
theorem dX0_isMoved_0 : decode cX0_isMoved 0 = .ok (.aload_n 0, 1) := by decide +kernel
theorem dX0_isMoved_1 : decode cX0_isMoved 1 = .ok (.iload_n 1, 1) := by decide +kernel
theorem dX0_isMoved_2 : decode cX0_isMoved 2 = .ok (.invokevirtual 208, 3) := by decide +kernel
theorem dX0_isMoved_5 : decode cX0_isMoved 5 = .ok (.iconst (-1), 1) := by decide +kernel
theorem dX0_isMoved_6 : decode cX0_isMoved 6 = .ok (.if_icmp .eq 7, 3) := by decide +kernel
theorem dX0_isMoved_9 : decode cX0_isMoved 9 = .ok (.iconst 1, 1) := by decide +kernel
theorem dX0_isMoved_10 : decode cX0_isMoved 10 = .ok (.goto 4, 3) := by decide +kernel
theorem dX0_isMoved_13 : decode cX0_isMoved 13 = .ok (.iconst 0, 1) := by decide +kernel
theorem dX0_isMoved_14 : decode cX0_isMoved 14 = .ok (.ireturn, 1) := by decide +kernel
set_option maxRecDepth 20000 in
theorem ggX0_firstKeyOf_X0_lastKeyOf : GoodIn wsX0_firstKeyOf wsX0_lastKeyOf := goodIn_r _ [5, 6, 7, 8, 9, 4, 10, 11, 12, 13, 14, 15, 16, 17, 18, 19, 20, 21, 22, 23, 24, 25, 26, 27] (by decide +kernel) (by decide +kernel)
set_option maxRecDepth 20000 in
theorem gX0_firstKeyOf_X0_lastKeyOf : GoodIn wsX0_firstKeyOf (wsV RX0 96 RX0 yX0_lastKeyOf wsX0_lastKeyOf) := goodIn_app (goodIn_of _ (by decide +kernel)) ggX0_firstKeyOf_X0_lastKeyOf
theorem dX0_firstKeyOf_0 : decode cX0_firstKeyOf 0 = .ok (.iload_n 1, 1) := by decide +kernel
theorem dX0_firstKeyOf_1 : decode cX0_firstKeyOf 1 = .ok (.ifCond .ne 7, 3) := by decide +kernel
theorem dX0_firstKeyOf_4 : decode cX0_firstKeyOf 4 = .ok (.iconst 0, 1) := by decide +kernel
theorem dX0_firstKeyOf_5 : decode cX0_firstKeyOf 5 = .ok (.goto 12, 3) := by decide +kernel
theorem dX0_firstKeyOf_8 : decode cX0_firstKeyOf 8 = .ok (.aload_n 0, 1) := by decide +kernel
theorem dX0_firstKeyOf_9 : decode cX0_firstKeyOf 9 = .ok (.iload_n 1, 1) := by decide +kernel
theorem dX0_firstKeyOf_10 : decode cX0_firstKeyOf 10 = .ok (.iconst 1, 1) := by decide +kernel
theorem dX0_firstKeyOf_11 : decode cX0_firstKeyOf 11 = .ok (.isub, 1) := by decide +kernel
theorem dX0_firstKeyOf_12 : decode cX0_firstKeyOf 12 = .ok (.invokevirtual 96, 3) := by decide +kernel
theorem dX0_firstKeyOf_15 : decode cX0_firstKeyOf 15 = .ok (.iconst 1, 1) := by decide +kernel
theorem dX0_firstKeyOf_16 : decode cX0_firstKeyOf 16 = .ok (.iadd, 1) := by decide +kernel
theorem dX0_firstKeyOf_17 : decode cX0_firstKeyOf 17 = .ok (.ireturn, 1) := by decide +kernel
set_option maxRecDepth 20000 in
theorem ggX0_lastKeyOf_X0_isRange : GoodIn wsX0_lastKeyOf wsX0_isRange := goodIn_r _ [6, 7, 8, 9, 10, 11, 12, 13, 14, 15, 16, 17, 18, 19, 20, 21, 22, 23] (by decide +kernel) (by decide +kernel)
set_option maxRecDepth 20000 in
theorem gX0_lastKeyOf_X0_isRange : GoodIn wsX0_lastKeyOf (wsV RX0 117 RX0 yX0_isRange wsX0_isRange) := goodIn_app (goodIn_of _ (by decide +kernel)) ggX0_lastKeyOf_X0_isRange
theorem dX0_lastKeyOf_0 : decode cX0_lastKeyOf 0 = .ok (.aload_n 0, 1) := by decide +kernel
theorem dX0_lastKeyOf_1 : decode cX0_lastKeyOf 1 = .ok (.iload_n 1, 1) := by decide +kernel
theorem dX0_lastKeyOf_2 : decode cX0_lastKeyOf 2 = .ok (.invokevirtual 117, 3) := by decide +kernel
theorem dX0_lastKeyOf_5 : decode cX0_lastKeyOf 5 = .ok (.ifCond .eq 12, 3) := by decide +kernel
theorem dX0_lastKeyOf_8 : decode cX0_lastKeyOf 8 = .ok (.aload_n 0, 1) := by decide +kernel
theorem dX0_lastKeyOf_9 : decode cX0_lastKeyOf 9 = .ok (.getfield 13, 3) := by decide +kernel
theorem dX0_lastKeyOf_12 : decode cX0_lastKeyOf 12 = .ok (.iload_n 1, 1) := by decide +kernel
theorem dX0_lastKeyOf_13 : decode cX0_lastKeyOf 13 = .ok (.iaload, 1) := by decide +kernel
theorem dX0_lastKeyOf_14 : decode cX0_lastKeyOf 14 = .ok (.goto 4, 3) := by decide +kernel
theorem dX0_lastKeyOf_17 : decode cX0_lastKeyOf 17 = .ok (.iconst (-1), 1) := by decide +kernel
theorem dX0_lastKeyOf_18 : decode cX0_lastKeyOf 18 = .ok (.ireturn, 1) := by decide +kernel
set_option maxRecDepth 20000 in
theorem ggX0_putLastKey_X0_isRange : GoodIn wsX0_putLastKey wsX0_isRange := goodIn_r _ [6, 7, 8, 9, 10, 11, 12, 13, 14, 15, 16, 17, 18, 19, 20, 21, 22, 23] (by decide +kernel) (by decide +kernel)
set_option maxRecDepth 20000 in
theorem gX0_putLastKey_X0_isRange : GoodIn wsX0_putLastKey (wsV RX0 117 RX0 yX0_isRange wsX0_isRange) := goodIn_app (goodIn_of _ (by decide +kernel)) ggX0_putLastKey_X0_isRange
theorem dX0_putLastKey_0 : decode cX0_putLastKey 0 = .ok (.aload_n 0, 1) := by decide +kernel
theorem dX0_putLastKey_1 : decode cX0_putLastKey 1 = .ok (.iload_n 1, 1) := by decide +kernel
theorem dX0_putLastKey_2 : decode cX0_putLastKey 2 = .ok (.invokevirtual 117, 3) := by decide +kernel
theorem dX0_putLastKey_5 : decode cX0_putLastKey 5 = .ok (.ifCond .eq 10, 3) := by decide +kernel
theorem dX0_putLastKey_8 : decode cX0_putLastKey 8 = .ok (.aload_n 0, 1) := by decide +kernel
theorem dX0_putLastKey_9 : decode cX0_putLastKey 9 = .ok (.getfield 13, 3) := by decide +kernel
theorem dX0_putLastKey_12 : decode cX0_putLastKey 12 = .ok (.iload_n 1, 1) := by decide +kernel
theorem dX0_putLastKey_13 : decode cX0_putLastKey 13 = .ok (.iload_n 2, 1) := by decide +kernel
theorem dX0_putLastKey_14 : decode cX0_putLastKey 14 = .ok (.iastore, 1) := by decide +kernel
theorem dX0_putLastKey_15 : decode cX0_putLastKey 15 = .ok (.return_, 1) := by decide +kernel
set_option maxRecDepth 20000 in
theorem ggX0_insertCopyBehind_X0_copyRange : GoodIn wsX0_insertCopyBehind wsX0_copyRange := goodIn_r _ [6, 7, 8, 9, 10, 11, 12, 5, 13, 1, 14, 15, 16, 17, 18, 19, 20, 21, 22, 23, 24, 25, 26, 27, 28, 29] (by decide +kernel) (by decide +kernel)
set_option maxRecDepth 20000 in
theorem gX0_insertCopyBehind_X0_copyRange : GoodIn wsX0_insertCopyBehind (wsV RX0 211 RX0 yX0_copyRange wsX0_copyRange) := goodIn_app (goodIn_of _ (by decide +kernel)) ggX0_insertCopyBehind_X0_copyRange
theorem dX0_insertCopyBehind_0 : decode cX0_insertCopyBehind 0 = .ok (.aload_n 0, 1) := by decide +kernel
theorem dX0_insertCopyBehind_1 : decode cX0_insertCopyBehind 1 = .ok (.dup, 1) := by decide +kernel
theorem dX0_insertCopyBehind_2 : decode cX0_insertCopyBehind 2 = .ok (.getfield 49, 3) := by decide +kernel
theorem dX0_insertCopyBehind_5 : decode cX0_insertCopyBehind 5 = .ok (.iconst 1, 1) := by decide +kernel
theorem dX0_insertCopyBehind_6 : decode cX0_insertCopyBehind 6 = .ok (.iadd, 1) := by decide +kernel
theorem dX0_insertCopyBehind_7 : decode cX0_insertCopyBehind 7 = .ok (.putfield 49, 3) := by decide +kernel
theorem dX0_insertCopyBehind_10 : decode cX0_insertCopyBehind 10 = .ok (.aload_n 0, 1) := by decide +kernel
theorem dX0_insertCopyBehind_11 : decode cX0_insertCopyBehind 11 = .ok (.getfield 49, 3) := by decide +kernel
theorem dX0_insertCopyBehind_14 : decode cX0_insertCopyBehind 14 = .ok (.iconst 1, 1) := by decide +kernel
theorem dX0_insertCopyBehind_15 : decode cX0_insertCopyBehind 15 = .ok (.isub, 1) := by decide +kernel
theorem dX0_insertCopyBehind_16 : decode cX0_insertCopyBehind 16 = .ok (.istore_n 2, 1) := by decide +kernel
theorem dX0_insertCopyBehind_17 : decode cX0_insertCopyBehind 17 = .ok (.iload_n 2, 1) := by decide +kernel
theorem dX0_insertCopyBehind_18 : decode cX0_insertCopyBehind 18 = .ok (.iload_n 1, 1) := by decide +kernel
theorem dX0_insertCopyBehind_19 : decode cX0_insertCopyBehind 19 = .ok (.if_icmp .le 17, 3) := by decide +kernel
theorem dX0_insertCopyBehind_22 : decode cX0_insertCopyBehind 22 = .ok (.aload_n 0, 1) := by decide +kernel
theorem dX0_insertCopyBehind_23 : decode cX0_insertCopyBehind 23 = .ok (.iload_n 2, 1) := by decide +kernel
theorem dX0_insertCopyBehind_24 : decode cX0_insertCopyBehind 24 = .ok (.iconst 1, 1) := by decide +kernel
theorem dX0_insertCopyBehind_25 : decode cX0_insertCopyBehind 25 = .ok (.isub, 1) := by decide +kernel
theorem dX0_insertCopyBehind_26 : decode cX0_insertCopyBehind 26 = .ok (.iload_n 2, 1) := by decide +kernel
theorem dX0_insertCopyBehind_27 : decode cX0_insertCopyBehind 27 = .ok (.invokevirtual 211, 3) := by decide +kernel
theorem dX0_insertCopyBehind_30 : decode cX0_insertCopyBehind 30 = .ok (.iinc 2 (-1), 3) := by decide +kernel
theorem dX0_insertCopyBehind_33 : decode cX0_insertCopyBehind 33 = .ok (.goto (-16), 3) := by decide +kernel
theorem dX0_insertCopyBehind_36 : decode cX0_insertCopyBehind 36 = .ok (.return_, 1) := by decide +kernel
set_option maxRecDepth 20000 in
theorem ggX0_remove_X0_copyRange : GoodIn wsX0_remove wsX0_copyRange := goodIn_r _ [6, 7, 8, 9, 10, 11, 12, 5, 13, 1, 14, 15, 16, 17, 18, 19, 20, 21, 22, 23, 24, 25, 26, 27, 28, 29] (by decide +kernel) (by decide +kernel)
set_option maxRecDepth 20000 in
theorem gX0_remove_X0_copyRange : GoodIn wsX0_remove (wsV RX0 211 RX0 yX0_copyRange wsX0_copyRange) := goodIn_app (goodIn_of _ (by decide +kernel)) ggX0_remove_X0_copyRange
theorem dX0_remove_0 : decode cX0_remove 0 = .ok (.iload_n 1, 1) := by decide +kernel
theorem dX0_remove_1 : decode cX0_remove 1 = .ok (.istore_n 2, 1) := by decide +kernel
theorem dX0_remove_2 : decode cX0_remove 2 = .ok (.iload_n 2, 1) := by decide +kernel
theorem dX0_remove_3 : decode cX0_remove 3 = .ok (.aload_n 0, 1) := by decide +kernel
theorem dX0_remove_4 : decode cX0_remove 4 = .ok (.getfield 49, 3) := by decide +kernel
theorem dX0_remove_7 : decode cX0_remove 7 = .ok (.iconst 1, 1) := by decide +kernel
theorem dX0_remove_8 : decode cX0_remove 8 = .ok (.isub, 1) := by decide +kernel
theorem dX0_remove_9 : decode cX0_remove 9 = .ok (.if_icmp .ge 17, 3) := by decide +kernel
theorem dX0_remove_12 : decode cX0_remove 12 = .ok (.aload_n 0, 1) := by decide +kernel
theorem dX0_remove_13 : decode cX0_remove 13 = .ok (.iload_n 2, 1) := by decide +kernel
theorem dX0_remove_14 : decode cX0_remove 14 = .ok (.iconst 1, 1) := by decide +kernel
theorem dX0_remove_15 : decode cX0_remove 15 = .ok (.iadd, 1) := by decide +kernel
theorem dX0_remove_16 : decode cX0_remove 16 = .ok (.iload_n 2, 1) := by decide +kernel
theorem dX0_remove_17 : decode cX0_remove 17 = .ok (.invokevirtual 211, 3) := by decide +kernel
theorem dX0_remove_20 : decode cX0_remove 20 = .ok (.iinc 2 1, 3) := by decide +kernel
theorem dX0_remove_23 : decode cX0_remove 23 = .ok (.goto (-21), 3) := by decide +kernel
theorem dX0_remove_26 : decode cX0_remove 26 = .ok (.aload_n 0, 1) := by decide +kernel
theorem dX0_remove_27 : decode cX0_remove 27 = .ok (.dup, 1) := by decide +kernel
theorem dX0_remove_28 : decode cX0_remove 28 = .ok (.getfield 49, 3) := by decide +kernel
theorem dX0_remove_31 : decode cX0_remove 31 = .ok (.iconst 1, 1) := by decide +kernel
theorem dX0_remove_32 : decode cX0_remove 32 = .ok (.isub, 1) := by decide +kernel
theorem dX0_remove_33 : decode cX0_remove 33 = .ok (.putfield 49, 3) := by decide +kernel
theorem dX0_remove_36 : decode cX0_remove 36 = .ok (.return_, 1) := by decide +kernel
set_option maxRecDepth 20000 in
theorem ggX0_copyRange_X0_isRange : GoodIn wsX0_copyRange wsX0_isRange := goodIn_r _ [8, 9, 10, 11, 12, 13, 14, 15, 16, 17, 18, 19, 20, 21, 22, 23, 24, 25] (by decide +kernel) (by decide +kernel)
set_option maxRecDepth 20000 in
theorem gX0_copyRange_X0_isRange : GoodIn wsX0_copyRange (wsV RX0 117 RX0 yX0_isRange wsX0_isRange) := goodIn_app (goodIn_of _ (by decide +kernel)) ggX0_copyRange_X0_isRange
theorem dX0_copyRange_0 : decode cX0_copyRange 0 = .ok (.aload_n 0, 1) := by decide +kernel
theorem dX0_copyRange_1 : decode cX0_copyRange 1 = .ok (.iload_n 1, 1) := by decide +kernel
theorem dX0_copyRange_2 : decode cX0_copyRange 2 = .ok (.invokevirtual 117, 3) := by decide +kernel
theorem dX0_copyRange_5 : decode cX0_copyRange 5 = .ok (.ifCond .eq 47, 3) := by decide +kernel
theorem dX0_copyRange_8 : decode cX0_copyRange 8 = .ok (.aload_n 0, 1) := by decide +kernel
theorem dX0_copyRange_9 : decode cX0_copyRange 9 = .ok (.iload_n 2, 1) := by decide +kernel
theorem dX0_copyRange_10 : decode cX0_copyRange 10 = .ok (.invokevirtual 117, 3) := by decide +kernel
theorem dX0_copyRange_13 : decode cX0_copyRange 13 = .ok (.ifCond .eq 39, 3) := by decide +kernel
theorem dX0_copyRange_16 : decode cX0_copyRange 16 = .ok (.aload_n 0, 1) := by decide +kernel
theorem dX0_copyRange_17 : decode cX0_copyRange 17 = .ok (.getfield 13, 3) := by decide +kernel
theorem dX0_copyRange_20 : decode cX0_copyRange 20 = .ok (.iload_n 2, 1) := by decide +kernel
theorem dX0_copyRange_21 : decode cX0_copyRange 21 = .ok (.aload_n 0, 1) := by decide +kernel
theorem dX0_copyRange_22 : decode cX0_copyRange 22 = .ok (.getfield 13, 3) := by decide +kernel
theorem dX0_copyRange_25 : decode cX0_copyRange 25 = .ok (.iload_n 1, 1) := by decide +kernel
theorem dX0_copyRange_26 : decode cX0_copyRange 26 = .ok (.iaload, 1) := by decide +kernel
theorem dX0_copyRange_27 : decode cX0_copyRange 27 = .ok (.iastore, 1) := by decide +kernel
theorem dX0_copyRange_28 : decode cX0_copyRange 28 = .ok (.aload_n 0, 1) := by decide +kernel
theorem dX0_copyRange_29 : decode cX0_copyRange 29 = .ok (.getfield 16, 3) := by decide +kernel
theorem dX0_copyRange_32 : decode cX0_copyRange 32 = .ok (.iload_n 2, 1) := by decide +kernel
theorem dX0_copyRange_33 : decode cX0_copyRange 33 = .ok (.aload_n 0, 1) := by decide +kernel
theorem dX0_copyRange_34 : decode cX0_copyRange 34 = .ok (.getfield 16, 3) := by decide +kernel
theorem dX0_copyRange_37 : decode cX0_copyRange 37 = .ok (.iload_n 1, 1) := by decide +kernel
theorem dX0_copyRange_38 : decode cX0_copyRange 38 = .ok (.iaload, 1) := by decide +kernel
theorem dX0_copyRange_39 : decode cX0_copyRange 39 = .ok (.iastore, 1) := by decide +kernel
theorem dX0_copyRange_40 : decode cX0_copyRange 40 = .ok (.aload_n 0, 1) := by decide +kernel
theorem dX0_copyRange_41 : decode cX0_copyRange 41 = .ok (.getfield 19, 3) := by decide +kernel
theorem dX0_copyRange_44 : decode cX0_copyRange 44 = .ok (.iload_n 2, 1) := by decide +kernel
theorem dX0_copyRange_45 : decode cX0_copyRange 45 = .ok (.aload_n 0, 1) := by decide +kernel
theorem dX0_copyRange_46 : decode cX0_copyRange 46 = .ok (.getfield 19, 3) := by decide +kernel
theorem dX0_copyRange_49 : decode cX0_copyRange 49 = .ok (.iload_n 1, 1) := by decide +kernel
theorem dX0_copyRange_50 : decode cX0_copyRange 50 = .ok (.iaload, 1) := by decide +kernel
theorem dX0_copyRange_51 : decode cX0_copyRange 51 = .ok (.iastore, 1) := by decide +kernel
theorem dX0_copyRange_52 : decode cX0_copyRange 52 = .ok (.return_, 1) := by decide +kernel
set_option maxRecDepth 20000 in
theorem ggX0_isOfOpenVote_X0_isBallot : GoodIn wsX0_isOfOpenVote wsX0_isBallot := goodIn_r _ [8, 9, 10, 11, 12, 13, 14, 15, 16, 17, 18, 19, 20, 21, 22, 23, 24, 25] (by decide +kernel) (by decide +kernel)
set_option maxRecDepth 20000 in
theorem gX0_isOfOpenVote_X0_isBallot : GoodIn wsX0_isOfOpenVote (wsV RX0 177 RX0 yX0_isBallot wsX0_isBallot) := goodIn_app (goodIn_of _ (by decide +kernel)) ggX0_isOfOpenVote_X0_isBallot
theorem dX0_isOfOpenVote_0 : decode cX0_isOfOpenVote 0 = .ok (.aload_n 0, 1) := by decide +kernel
theorem dX0_isOfOpenVote_1 : decode cX0_isOfOpenVote 1 = .ok (.getfield 163, 3) := by decide +kernel
theorem dX0_isOfOpenVote_4 : decode cX0_isOfOpenVote 4 = .ok (.ifCond .eq 28, 3) := by decide +kernel
theorem dX0_isOfOpenVote_7 : decode cX0_isOfOpenVote 7 = .ok (.aload_n 0, 1) := by decide +kernel
theorem dX0_isOfOpenVote_8 : decode cX0_isOfOpenVote 8 = .ok (.iload_n 1, 1) := by decide +kernel
theorem dX0_isOfOpenVote_9 : decode cX0_isOfOpenVote 9 = .ok (.invokevirtual 177, 3) := by decide +kernel
theorem dX0_isOfOpenVote_12 : decode cX0_isOfOpenVote 12 = .ok (.ifCond .eq 20, 3) := by decide +kernel
theorem dX0_isOfOpenVote_15 : decode cX0_isOfOpenVote 15 = .ok (.aload_n 0, 1) := by decide +kernel
theorem dX0_isOfOpenVote_16 : decode cX0_isOfOpenVote 16 = .ok (.getfield 28, 3) := by decide +kernel
theorem dX0_isOfOpenVote_19 : decode cX0_isOfOpenVote 19 = .ok (.iload_n 1, 1) := by decide +kernel
theorem dX0_isOfOpenVote_20 : decode cX0_isOfOpenVote 20 = .ok (.iaload, 1) := by decide +kernel
theorem dX0_isOfOpenVote_21 : decode cX0_isOfOpenVote 21 = .ok (.aload_n 0, 1) := by decide +kernel
theorem dX0_isOfOpenVote_22 : decode cX0_isOfOpenVote 22 = .ok (.getfield 169, 3) := by decide +kernel
theorem dX0_isOfOpenVote_25 : decode cX0_isOfOpenVote 25 = .ok (.if_icmp .ne 7, 3) := by decide +kernel
theorem dX0_isOfOpenVote_28 : decode cX0_isOfOpenVote 28 = .ok (.iconst 1, 1) := by decide +kernel
theorem dX0_isOfOpenVote_29 : decode cX0_isOfOpenVote 29 = .ok (.goto 4, 3) := by decide +kernel
theorem dX0_isOfOpenVote_32 : decode cX0_isOfOpenVote 32 = .ok (.iconst 0, 1) := by decide +kernel
theorem dX0_isOfOpenVote_33 : decode cX0_isOfOpenVote 33 = .ok (.ireturn, 1) := by decide +kernel
set_option maxRecDepth 20000 in
theorem ggX0_latestBallotTo_X0_isOfOpenVote : GoodIn wsX0_latestBallotTo wsX0_isOfOpenVote := goodIn_r _ [7, 8, 9, 10, 11, 12, 13, 6, 14, 1, 15, 16, 17, 18, 19, 20, 21, 22, 23, 24, 25, 26, 27, 28, 29, 30] (by decide +kernel) (by decide +kernel)
set_option maxRecDepth 20000 in
theorem gX0_latestBallotTo_X0_isOfOpenVote : GoodIn wsX0_latestBallotTo (wsV RX0 195 RX0 yX0_isOfOpenVote wsX0_isOfOpenVote) := goodIn_app (goodIn_of _ (by decide +kernel)) ggX0_latestBallotTo_X0_isOfOpenVote
theorem dX0_latestBallotTo_0 : decode cX0_latestBallotTo 0 = .ok (.aload_n 0, 1) := by decide +kernel
theorem dX0_latestBallotTo_1 : decode cX0_latestBallotTo 1 = .ok (.getfield 182, 3) := by decide +kernel
theorem dX0_latestBallotTo_4 : decode cX0_latestBallotTo 4 = .ok (.iconst 1, 1) := by decide +kernel
theorem dX0_latestBallotTo_5 : decode cX0_latestBallotTo 5 = .ok (.isub, 1) := by decide +kernel
theorem dX0_latestBallotTo_6 : decode cX0_latestBallotTo 6 = .ok (.istore_n 2, 1) := by decide +kernel
theorem dX0_latestBallotTo_7 : decode cX0_latestBallotTo 7 = .ok (.iload_n 2, 1) := by decide +kernel
theorem dX0_latestBallotTo_8 : decode cX0_latestBallotTo 8 = .ok (.ifCond .lt 29, 3) := by decide +kernel
theorem dX0_latestBallotTo_11 : decode cX0_latestBallotTo 11 = .ok (.aload_n 0, 1) := by decide +kernel
theorem dX0_latestBallotTo_12 : decode cX0_latestBallotTo 12 = .ok (.iload_n 2, 1) := by decide +kernel
theorem dX0_latestBallotTo_13 : decode cX0_latestBallotTo 13 = .ok (.invokevirtual 195, 3) := by decide +kernel
theorem dX0_latestBallotTo_16 : decode cX0_latestBallotTo 16 = .ok (.ifCond .eq 15, 3) := by decide +kernel
theorem dX0_latestBallotTo_19 : decode cX0_latestBallotTo 19 = .ok (.aload_n 0, 1) := by decide +kernel
theorem dX0_latestBallotTo_20 : decode cX0_latestBallotTo 20 = .ok (.getfield 25, 3) := by decide +kernel
theorem dX0_latestBallotTo_23 : decode cX0_latestBallotTo 23 = .ok (.iload_n 2, 1) := by decide +kernel
theorem dX0_latestBallotTo_24 : decode cX0_latestBallotTo 24 = .ok (.iaload, 1) := by decide +kernel
theorem dX0_latestBallotTo_25 : decode cX0_latestBallotTo 25 = .ok (.iload_n 1, 1) := by decide +kernel
theorem dX0_latestBallotTo_26 : decode cX0_latestBallotTo 26 = .ok (.if_icmp .ne 5, 3) := by decide +kernel
theorem dX0_latestBallotTo_29 : decode cX0_latestBallotTo 29 = .ok (.iload_n 2, 1) := by decide +kernel
theorem dX0_latestBallotTo_30 : decode cX0_latestBallotTo 30 = .ok (.ireturn, 1) := by decide +kernel
theorem dX0_latestBallotTo_31 : decode cX0_latestBallotTo 31 = .ok (.iinc 2 (-1), 3) := by decide +kernel
theorem dX0_latestBallotTo_34 : decode cX0_latestBallotTo 34 = .ok (.goto (-27), 3) := by decide +kernel
theorem dX0_latestBallotTo_37 : decode cX0_latestBallotTo 37 = .ok (.iconst (-1), 1) := by decide +kernel
theorem dX0_latestBallotTo_38 : decode cX0_latestBallotTo 38 = .ok (.ireturn, 1) := by decide +kernel
theorem dX0_isKey_0 : decode cX0_isKey 0 = .ok (.iload_n 0, 1) := by decide +kernel
theorem dX0_isKey_1 : decode cX0_isKey 1 = .ok (.ifCond .lt 13, 3) := by decide +kernel
theorem dX0_isKey_4 : decode cX0_isKey 4 = .ok (.iload_n 0, 1) := by decide +kernel
theorem dX0_isKey_5 : decode cX0_isKey 5 = .ok (.bipush 100, 2) := by decide +kernel
theorem dX0_isKey_7 : decode cX0_isKey 7 = .ok (.if_icmp .ge 7, 3) := by decide +kernel
theorem dX0_isKey_10 : decode cX0_isKey 10 = .ok (.iconst 1, 1) := by decide +kernel
theorem dX0_isKey_11 : decode cX0_isKey 11 = .ok (.goto 4, 3) := by decide +kernel
theorem dX0_isKey_14 : decode cX0_isKey 14 = .ok (.iconst 0, 1) := by decide +kernel
theorem dX0_isKey_15 : decode cX0_isKey 15 = .ok (.ireturn, 1) := by decide +kernel
theorem dX0_isShard_0 : decode cX0_isShard 0 = .ok (.iload_n 0, 1) := by decide +kernel
theorem dX0_isShard_1 : decode cX0_isShard 1 = .ok (.ifCond .lt 12, 3) := by decide +kernel
theorem dX0_isShard_4 : decode cX0_isShard 4 = .ok (.iload_n 0, 1) := by decide +kernel
theorem dX0_isShard_5 : decode cX0_isShard 5 = .ok (.iconst 4, 1) := by decide +kernel
theorem dX0_isShard_6 : decode cX0_isShard 6 = .ok (.if_icmp .ge 7, 3) := by decide +kernel
theorem dX0_isShard_9 : decode cX0_isShard 9 = .ok (.iconst 1, 1) := by decide +kernel
theorem dX0_isShard_10 : decode cX0_isShard 10 = .ok (.goto 4, 3) := by decide +kernel
theorem dX0_isShard_13 : decode cX0_isShard 13 = .ok (.iconst 0, 1) := by decide +kernel
theorem dX0_isShard_14 : decode cX0_isShard 14 = .ok (.ireturn, 1) := by decide +kernel
theorem dX0_isRange_0 : decode cX0_isRange 0 = .ok (.iload_n 1, 1) := by decide +kernel
theorem dX0_isRange_1 : decode cX0_isRange 1 = .ok (.ifCond .lt 15, 3) := by decide +kernel
theorem dX0_isRange_4 : decode cX0_isRange 4 = .ok (.iload_n 1, 1) := by decide +kernel
theorem dX0_isRange_5 : decode cX0_isRange 5 = .ok (.aload_n 0, 1) := by decide +kernel
theorem dX0_isRange_6 : decode cX0_isRange 6 = .ok (.getfield 49, 3) := by decide +kernel
theorem dX0_isRange_9 : decode cX0_isRange 9 = .ok (.if_icmp .ge 7, 3) := by decide +kernel
theorem dX0_isRange_12 : decode cX0_isRange 12 = .ok (.iconst 1, 1) := by decide +kernel
theorem dX0_isRange_13 : decode cX0_isRange 13 = .ok (.goto 4, 3) := by decide +kernel
theorem dX0_isRange_16 : decode cX0_isRange 16 = .ok (.iconst 0, 1) := by decide +kernel
theorem dX0_isRange_17 : decode cX0_isRange 17 = .ok (.ireturn, 1) := by decide +kernel
theorem dX0_isBallot_0 : decode cX0_isBallot 0 = .ok (.iload_n 1, 1) := by decide +kernel
theorem dX0_isBallot_1 : decode cX0_isBallot 1 = .ok (.ifCond .lt 15, 3) := by decide +kernel
theorem dX0_isBallot_4 : decode cX0_isBallot 4 = .ok (.iload_n 1, 1) := by decide +kernel
theorem dX0_isBallot_5 : decode cX0_isBallot 5 = .ok (.aload_n 0, 1) := by decide +kernel
theorem dX0_isBallot_6 : decode cX0_isBallot 6 = .ok (.getfield 182, 3) := by decide +kernel
theorem dX0_isBallot_9 : decode cX0_isBallot 9 = .ok (.if_icmp .ge 7, 3) := by decide +kernel
theorem dX0_isBallot_12 : decode cX0_isBallot 12 = .ok (.iconst 1, 1) := by decide +kernel
theorem dX0_isBallot_13 : decode cX0_isBallot 13 = .ok (.goto 4, 3) := by decide +kernel
theorem dX0_isBallot_16 : decode cX0_isBallot 16 = .ok (.iconst 0, 1) := by decide +kernel
theorem dX0_isBallot_17 : decode cX0_isBallot 17 = .ok (.ireturn, 1) := by decide +kernel
set_option maxRecDepth 20000 in
theorem ggX0_isMember_X0_read : GoodIn wsX0_isMember wsX0_read := goodIn_r _ [5, 6, 7, 8, 4, 9, 10, 11, 12, 13, 14, 15, 16, 17, 18, 19, 20, 21, 22, 23, 24, 25, 26, 27, 28, 29, 30, 31, 32, 33, 34, 35, 36, 37, 38, 39, 40, 41, 42, 43, 44, 45, 46, 47, 48, 49, 50, 51] (by decide +kernel) (by decide +kernel)
set_option maxRecDepth 20000 in
theorem gX0_isMember_X0_read : GoodIn wsX0_isMember (wsV RX0 83 RX0 yX0_read wsX0_read) := goodIn_app (goodIn_of _ (by decide +kernel)) ggX0_isMember_X0_read
theorem dX0_isMember_0 : decode cX0_isMember 0 = .ok (.aload_n 0, 1) := by decide +kernel
theorem dX0_isMember_1 : decode cX0_isMember 1 = .ok (.iload_n 1, 1) := by decide +kernel
theorem dX0_isMember_2 : decode cX0_isMember 2 = .ok (.invokevirtual 83, 3) := by decide +kernel
theorem dX0_isMember_5 : decode cX0_isMember 5 = .ok (.iconst (-1), 1) := by decide +kernel
theorem dX0_isMember_6 : decode cX0_isMember 6 = .ok (.if_icmp .eq 7, 3) := by decide +kernel
theorem dX0_isMember_9 : decode cX0_isMember 9 = .ok (.iconst 1, 1) := by decide +kernel
theorem dX0_isMember_10 : decode cX0_isMember 10 = .ok (.goto 4, 3) := by decide +kernel
theorem dX0_isMember_13 : decode cX0_isMember 13 = .ok (.iconst 0, 1) := by decide +kernel
theorem dX0_isMember_14 : decode cX0_isMember 14 = .ok (.ireturn, 1) := by decide +kernel
set_option maxRecDepth 20000 in
theorem ggX0_checkKey_X0_isKey : GoodIn wsX0_checkKey wsX0_isKey := goodIn_r _ [6] (by decide +kernel) (by decide +kernel)
set_option maxRecDepth 20000 in
theorem gX0_checkKey_X0_isKey : GoodIn wsX0_checkKey (va_wsS RX0 205 yX0_isKey wsX0_isKey) := goodIn_app (goodIn_of _ (by decide +kernel)) ggX0_checkKey_X0_isKey
theorem dX0_checkKey_0 : decode cX0_checkKey 0 = .ok (.iload_n 0, 1) := by decide +kernel
theorem dX0_checkKey_1 : decode cX0_checkKey 1 = .ok (.invokestatic 205, 3) := by decide +kernel
theorem dX0_checkKey_4 : decode cX0_checkKey 4 = .ok (.ifCond .ne 13, 3) := by decide +kernel
theorem dX0_checkKey_7 : decode cX0_checkKey 7 = .ok (.new 214, 3) := by decide +kernel
theorem dX0_checkKey_10 : decode cX0_checkKey 10 = .ok (.dup, 1) := by decide +kernel
theorem dX0_checkKey_11 : decode cX0_checkKey 11 = .ok (.ldc 216, 2) := by decide +kernel
theorem dX0_checkKey_13 : decode cX0_checkKey 13 = .ok (.invokespecial 218, 3) := by decide +kernel
theorem dX0_checkKey_16 : decode cX0_checkKey 16 = .ok (.athrow, 1) := by decide +kernel
theorem dX0_checkKey_17 : decode cX0_checkKey 17 = .ok (.return_, 1) := by decide +kernel
set_option maxRecDepth 20000 in
theorem ggX0_checkShard_X0_isShard : GoodIn wsX0_checkShard wsX0_isShard := goodIn_r _ [6] (by decide +kernel) (by decide +kernel)
set_option maxRecDepth 20000 in
theorem gX0_checkShard_X0_isShard : GoodIn wsX0_checkShard (va_wsS RX0 202 yX0_isShard wsX0_isShard) := goodIn_app (goodIn_of _ (by decide +kernel)) ggX0_checkShard_X0_isShard
theorem dX0_checkShard_0 : decode cX0_checkShard 0 = .ok (.iload_n 0, 1) := by decide +kernel
theorem dX0_checkShard_1 : decode cX0_checkShard 1 = .ok (.invokestatic 202, 3) := by decide +kernel
theorem dX0_checkShard_4 : decode cX0_checkShard 4 = .ok (.ifCond .ne 13, 3) := by decide +kernel
theorem dX0_checkShard_7 : decode cX0_checkShard 7 = .ok (.new 214, 3) := by decide +kernel
theorem dX0_checkShard_10 : decode cX0_checkShard 10 = .ok (.dup, 1) := by decide +kernel
theorem dX0_checkShard_11 : decode cX0_checkShard 11 = .ok (.ldc 219, 2) := by decide +kernel
theorem dX0_checkShard_13 : decode cX0_checkShard 13 = .ok (.invokespecial 218, 3) := by decide +kernel
theorem dX0_checkShard_16 : decode cX0_checkShard 16 = .ok (.athrow, 1) := by decide +kernel
theorem dX0_checkShard_17 : decode cX0_checkShard 17 = .ok (.return_, 1) := by decide +kernel
theorem dX0_checkDistrict_0 : decode cX0_checkDistrict 0 = .ok (.iload_n 0, 1) := by decide +kernel
theorem dX0_checkDistrict_1 : decode cX0_checkDistrict 1 = .ok (.ifCond .lt 8, 3) := by decide +kernel
theorem dX0_checkDistrict_4 : decode cX0_checkDistrict 4 = .ok (.iload_n 0, 1) := by decide +kernel
theorem dX0_checkDistrict_5 : decode cX0_checkDistrict 5 = .ok (.iconst 4, 1) := by decide +kernel
theorem dX0_checkDistrict_6 : decode cX0_checkDistrict 6 = .ok (.if_icmp .lt 13, 3) := by decide +kernel
theorem dX0_checkDistrict_9 : decode cX0_checkDistrict 9 = .ok (.new 214, 3) := by decide +kernel
theorem dX0_checkDistrict_12 : decode cX0_checkDistrict 12 = .ok (.dup, 1) := by decide +kernel
theorem dX0_checkDistrict_13 : decode cX0_checkDistrict 13 = .ok (.ldc 221, 2) := by decide +kernel
theorem dX0_checkDistrict_15 : decode cX0_checkDistrict 15 = .ok (.invokespecial 218, 3) := by decide +kernel
theorem dX0_checkDistrict_18 : decode cX0_checkDistrict 18 = .ok (.athrow, 1) := by decide +kernel
theorem dX0_checkDistrict_19 : decode cX0_checkDistrict 19 = .ok (.return_, 1) := by decide +kernel
set_option maxRecDepth 20000 in
theorem ggX0_checkRange_X0_isRange : GoodIn wsX0_checkRange wsX0_isRange := goodIn_r _ [7, 8, 9, 10, 11, 12, 13, 14, 15, 16, 17, 18, 19, 20, 21, 22, 23, 24] (by decide +kernel) (by decide +kernel)
set_option maxRecDepth 20000 in
theorem gX0_checkRange_X0_isRange : GoodIn wsX0_checkRange (wsV RX0 117 RX0 yX0_isRange wsX0_isRange) := goodIn_app (goodIn_of _ (by decide +kernel)) ggX0_checkRange_X0_isRange
theorem dX0_checkRange_0 : decode cX0_checkRange 0 = .ok (.aload_n 0, 1) := by decide +kernel
theorem dX0_checkRange_1 : decode cX0_checkRange 1 = .ok (.iload_n 1, 1) := by decide +kernel
theorem dX0_checkRange_2 : decode cX0_checkRange 2 = .ok (.invokevirtual 117, 3) := by decide +kernel
theorem dX0_checkRange_5 : decode cX0_checkRange 5 = .ok (.ifCond .ne 13, 3) := by decide +kernel
theorem dX0_checkRange_8 : decode cX0_checkRange 8 = .ok (.new 214, 3) := by decide +kernel
theorem dX0_checkRange_11 : decode cX0_checkRange 11 = .ok (.dup, 1) := by decide +kernel
theorem dX0_checkRange_12 : decode cX0_checkRange 12 = .ok (.ldc 223, 2) := by decide +kernel
theorem dX0_checkRange_14 : decode cX0_checkRange 14 = .ok (.invokespecial 218, 3) := by decide +kernel
theorem dX0_checkRange_17 : decode cX0_checkRange 17 = .ok (.athrow, 1) := by decide +kernel
theorem dX0_checkRange_18 : decode cX0_checkRange 18 = .ok (.return_, 1) := by decide +kernel
set_option maxRecDepth 20000 in
theorem ggX0_checkBallot_X0_isBallot : GoodIn wsX0_checkBallot wsX0_isBallot := goodIn_r _ [7, 8, 9, 10, 11, 12, 13, 14, 15, 16, 17, 18, 19, 20, 21, 22, 23, 24] (by decide +kernel) (by decide +kernel)
set_option maxRecDepth 20000 in
theorem gX0_checkBallot_X0_isBallot : GoodIn wsX0_checkBallot (wsV RX0 177 RX0 yX0_isBallot wsX0_isBallot) := goodIn_app (goodIn_of _ (by decide +kernel)) ggX0_checkBallot_X0_isBallot
theorem dX0_checkBallot_0 : decode cX0_checkBallot 0 = .ok (.aload_n 0, 1) := by decide +kernel
theorem dX0_checkBallot_1 : decode cX0_checkBallot 1 = .ok (.iload_n 1, 1) := by decide +kernel
theorem dX0_checkBallot_2 : decode cX0_checkBallot 2 = .ok (.invokevirtual 177, 3) := by decide +kernel
theorem dX0_checkBallot_5 : decode cX0_checkBallot 5 = .ok (.ifCond .ne 13, 3) := by decide +kernel
theorem dX0_checkBallot_8 : decode cX0_checkBallot 8 = .ok (.new 214, 3) := by decide +kernel
theorem dX0_checkBallot_11 : decode cX0_checkBallot 11 = .ok (.dup, 1) := by decide +kernel
theorem dX0_checkBallot_12 : decode cX0_checkBallot 12 = .ok (.ldc 225, 2) := by decide +kernel
theorem dX0_checkBallot_14 : decode cX0_checkBallot 14 = .ok (.invokespecial 218, 3) := by decide +kernel
theorem dX0_checkBallot_17 : decode cX0_checkBallot 17 = .ok (.athrow, 1) := by decide +kernel
theorem dX0_checkBallot_18 : decode cX0_checkBallot 18 = .ok (.return_, 1) := by decide +kernel
theorem dX0_checkAddress_0 : decode cX0_checkAddress 0 = .ok (.iload_n 0, 1) := by decide +kernel
theorem dX0_checkAddress_1 : decode cX0_checkAddress 1 = .ok (.ifCond .lt 9, 3) := by decide +kernel
theorem dX0_checkAddress_4 : decode cX0_checkAddress 4 = .ok (.iload_n 0, 1) := by decide +kernel
theorem dX0_checkAddress_5 : decode cX0_checkAddress 5 = .ok (.bipush 40, 2) := by decide +kernel
theorem dX0_checkAddress_7 : decode cX0_checkAddress 7 = .ok (.if_icmp .lt 13, 3) := by decide +kernel
theorem dX0_checkAddress_10 : decode cX0_checkAddress 10 = .ok (.new 227, 3) := by decide +kernel
theorem dX0_checkAddress_13 : decode cX0_checkAddress 13 = .ok (.dup, 1) := by decide +kernel
theorem dX0_checkAddress_14 : decode cX0_checkAddress 14 = .ok (.ldc 229, 2) := by decide +kernel
theorem dX0_checkAddress_16 : decode cX0_checkAddress 16 = .ok (.invokespecial 231, 3) := by decide +kernel
theorem dX0_checkAddress_19 : decode cX0_checkAddress 19 = .ok (.athrow, 1) := by decide +kernel
theorem dX0_checkAddress_20 : decode cX0_checkAddress 20 = .ok (.return_, 1) := by decide +kernel
theorem dX0_checkChoice_0 : decode cX0_checkChoice 0 = .ok (.iload_n 0, 1) := by decide +kernel
theorem dX0_checkChoice_1 : decode cX0_checkChoice 1 = .ok (.ifCond .lt 8, 3) := by decide +kernel
theorem dX0_checkChoice_4 : decode cX0_checkChoice 4 = .ok (.iload_n 0, 1) := by decide +kernel
theorem dX0_checkChoice_5 : decode cX0_checkChoice 5 = .ok (.iconst 3, 1) := by decide +kernel
theorem dX0_checkChoice_6 : decode cX0_checkChoice 6 = .ok (.if_icmp .lt 13, 3) := by decide +kernel
theorem dX0_checkChoice_9 : decode cX0_checkChoice 9 = .ok (.new 227, 3) := by decide +kernel
theorem dX0_checkChoice_12 : decode cX0_checkChoice 12 = .ok (.dup, 1) := by decide +kernel
theorem dX0_checkChoice_13 : decode cX0_checkChoice 13 = .ok (.ldc 232, 2) := by decide +kernel
theorem dX0_checkChoice_15 : decode cX0_checkChoice 15 = .ok (.invokespecial 231, 3) := by decide +kernel
theorem dX0_checkChoice_18 : decode cX0_checkChoice 18 = .ok (.athrow, 1) := by decide +kernel
theorem dX0_checkChoice_19 : decode cX0_checkChoice 19 = .ok (.return_, 1) := by decide +kernel
set_option maxRecDepth 20000 in
theorem ggX0_checkMember_X0_isMember : GoodIn wsX0_checkMember wsX0_isMember := goodIn_r _ [7, 8, 9, 10, 6, 11, 12, 13, 14, 15, 16, 17, 18, 19, 20, 21, 22, 23, 24, 25, 26, 27, 28, 29, 30, 31, 32, 33, 34, 35, 36, 37, 38, 39, 40, 41, 42, 43, 44, 45, 46, 47, 48, 49, 50, 51, 52, 53, 54, 55, 56, 57] (by decide +kernel) (by decide +kernel)
set_option maxRecDepth 20000 in
theorem gX0_checkMember_X0_isMember : GoodIn wsX0_checkMember (wsV RX0 60 RX0 yX0_isMember wsX0_isMember) := goodIn_app (goodIn_of _ (by decide +kernel)) ggX0_checkMember_X0_isMember
theorem dX0_checkMember_0 : decode cX0_checkMember 0 = .ok (.aload_n 0, 1) := by decide +kernel
theorem dX0_checkMember_1 : decode cX0_checkMember 1 = .ok (.iload_n 1, 1) := by decide +kernel
theorem dX0_checkMember_2 : decode cX0_checkMember 2 = .ok (.invokevirtual 60, 3) := by decide +kernel
theorem dX0_checkMember_5 : decode cX0_checkMember 5 = .ok (.ifCond .ne 13, 3) := by decide +kernel
theorem dX0_checkMember_8 : decode cX0_checkMember 8 = .ok (.new 64, 3) := by decide +kernel
theorem dX0_checkMember_11 : decode cX0_checkMember 11 = .ok (.dup, 1) := by decide +kernel
theorem dX0_checkMember_12 : decode cX0_checkMember 12 = .ok (.ldc 234, 2) := by decide +kernel
theorem dX0_checkMember_14 : decode cX0_checkMember 14 = .ok (.invokespecial 68, 3) := by decide +kernel
theorem dX0_checkMember_17 : decode cX0_checkMember 17 = .ok (.athrow, 1) := by decide +kernel
theorem dX0_checkMember_18 : decode cX0_checkMember 18 = .ok (.return_, 1) := by decide +kernel
set_option maxRecDepth 20000 in
theorem ggX0_checkMoved_X0_isMoved : GoodIn wsX0_checkMoved wsX0_isMoved := goodIn_r _ [7, 8, 9, 10, 6, 11, 12, 13, 14, 15, 16, 17, 18, 19, 20, 21, 22, 23, 24, 25, 26, 27, 28, 29, 30, 31, 32, 33] (by decide +kernel) (by decide +kernel)
set_option maxRecDepth 20000 in
theorem gX0_checkMoved_X0_isMoved : GoodIn wsX0_checkMoved (wsV RX0 101 RX0 yX0_isMoved wsX0_isMoved) := goodIn_app (goodIn_of _ (by decide +kernel)) ggX0_checkMoved_X0_isMoved
theorem dX0_checkMoved_0 : decode cX0_checkMoved 0 = .ok (.aload_n 0, 1) := by decide +kernel
theorem dX0_checkMoved_1 : decode cX0_checkMoved 1 = .ok (.iload_n 1, 1) := by decide +kernel
theorem dX0_checkMoved_2 : decode cX0_checkMoved 2 = .ok (.invokevirtual 101, 3) := by decide +kernel
theorem dX0_checkMoved_5 : decode cX0_checkMoved 5 = .ok (.ifCond .ne 13, 3) := by decide +kernel
theorem dX0_checkMoved_8 : decode cX0_checkMoved 8 = .ok (.new 64, 3) := by decide +kernel
theorem dX0_checkMoved_11 : decode cX0_checkMoved 11 = .ok (.dup, 1) := by decide +kernel
theorem dX0_checkMoved_12 : decode cX0_checkMoved 12 = .ok (.ldc 236, 2) := by decide +kernel
theorem dX0_checkMoved_14 : decode cX0_checkMoved 14 = .ok (.invokespecial 68, 3) := by decide +kernel
theorem dX0_checkMoved_17 : decode cX0_checkMoved 17 = .ok (.athrow, 1) := by decide +kernel
theorem dX0_checkMoved_18 : decode cX0_checkMoved 18 = .ok (.return_, 1) := by decide +kernel
