set_option maxRecDepth 20000 in
theorem ggX0_init_J7_fill_53178 : GoodIn wsX0_init wsJ7_fill_53178 := goodIn_r _ [20] (by decide +kernel) (by decide +kernel)
set_option maxRecDepth 20000 in
theorem gX0_init_J7_fill_53178 : GoodIn wsX0_init (va_wsS RX0 43 yJ7_fill_53178 wsJ7_fill_53178) := goodIn_app (goodIn_of _ (by decide +kernel)) ggX0_init_J7_fill_53178
theorem dX0_init_0 : decode cX0_init 0 = .ok (.aload_n 0, 1) := by decide +kernel
theorem dX0_init_1 : decode cX0_init 1 = .ok (.invokespecial 1, 3) := by decide +kernel
theorem dX0_init_4 : decode cX0_init 4 = .ok (.aload_n 0, 1) := by decide +kernel
theorem dX0_init_5 : decode cX0_init 5 = .ok (.sipush 400, 3) := by decide +kernel
theorem dX0_init_8 : decode cX0_init 8 = .ok (.newarray .int, 2) := by decide +kernel
theorem dX0_init_10 : decode cX0_init 10 = .ok (.putfield 9, 3) := by decide +kernel
theorem dX0_init_13 : decode cX0_init 13 = .ok (.aload_n 0, 1) := by decide +kernel
theorem dX0_init_14 : decode cX0_init 14 = .ok (.bipush 8, 2) := by decide +kernel
theorem dX0_init_16 : decode cX0_init 16 = .ok (.newarray .int, 2) := by decide +kernel
theorem dX0_init_18 : decode cX0_init 18 = .ok (.putfield 13, 3) := by decide +kernel
theorem dX0_init_21 : decode cX0_init 21 = .ok (.aload_n 0, 1) := by decide +kernel
theorem dX0_init_22 : decode cX0_init 22 = .ok (.bipush 8, 2) := by decide +kernel
theorem dX0_init_24 : decode cX0_init 24 = .ok (.newarray .int, 2) := by decide +kernel
theorem dX0_init_26 : decode cX0_init 26 = .ok (.putfield 16, 3) := by decide +kernel
theorem dX0_init_29 : decode cX0_init 29 = .ok (.aload_n 0, 1) := by decide +kernel
theorem dX0_init_30 : decode cX0_init 30 = .ok (.bipush 8, 2) := by decide +kernel
theorem dX0_init_32 : decode cX0_init 32 = .ok (.newarray .int, 2) := by decide +kernel
theorem dX0_init_34 : decode cX0_init 34 = .ok (.putfield 19, 3) := by decide +kernel
theorem dX0_init_37 : decode cX0_init 37 = .ok (.aload_n 0, 1) := by decide +kernel
theorem dX0_init_38 : decode cX0_init 38 = .ok (.bipush 100, 2) := by decide +kernel
theorem dX0_init_40 : decode cX0_init 40 = .ok (.newarray .int, 2) := by decide +kernel
theorem dX0_init_42 : decode cX0_init 42 = .ok (.putfield 22, 3) := by decide +kernel
theorem dX0_init_45 : decode cX0_init 45 = .ok (.aload_n 0, 1) := by decide +kernel
theorem dX0_init_46 : decode cX0_init 46 = .ok (.bipush 60, 2) := by decide +kernel
theorem dX0_init_48 : decode cX0_init 48 = .ok (.newarray .int, 2) := by decide +kernel
theorem dX0_init_50 : decode cX0_init 50 = .ok (.putfield 25, 3) := by decide +kernel
theorem dX0_init_53 : decode cX0_init 53 = .ok (.aload_n 0, 1) := by decide +kernel
theorem dX0_init_54 : decode cX0_init 54 = .ok (.bipush 60, 2) := by decide +kernel
theorem dX0_init_56 : decode cX0_init 56 = .ok (.newarray .int, 2) := by decide +kernel
theorem dX0_init_58 : decode cX0_init 58 = .ok (.putfield 28, 3) := by decide +kernel
theorem dX0_init_61 : decode cX0_init 61 = .ok (.aload_n 0, 1) := by decide +kernel
theorem dX0_init_62 : decode cX0_init 62 = .ok (.bipush 60, 2) := by decide +kernel
theorem dX0_init_64 : decode cX0_init 64 = .ok (.newarray .int, 2) := by decide +kernel
theorem dX0_init_66 : decode cX0_init 66 = .ok (.putfield 31, 3) := by decide +kernel
theorem dX0_init_69 : decode cX0_init 69 = .ok (.aload_n 0, 1) := by decide +kernel
theorem dX0_init_70 : decode cX0_init 70 = .ok (.bipush 60, 2) := by decide +kernel
theorem dX0_init_72 : decode cX0_init 72 = .ok (.newarray .int, 2) := by decide +kernel
theorem dX0_init_74 : decode cX0_init 74 = .ok (.putfield 34, 3) := by decide +kernel
theorem dX0_init_77 : decode cX0_init 77 = .ok (.aload_n 0, 1) := by decide +kernel
theorem dX0_init_78 : decode cX0_init 78 = .ok (.bipush 60, 2) := by decide +kernel
theorem dX0_init_80 : decode cX0_init 80 = .ok (.newarray .int, 2) := by decide +kernel
theorem dX0_init_82 : decode cX0_init 82 = .ok (.putfield 37, 3) := by decide +kernel
theorem dX0_init_85 : decode cX0_init 85 = .ok (.aload_n 0, 1) := by decide +kernel
theorem dX0_init_86 : decode cX0_init 86 = .ok (.bipush 60, 2) := by decide +kernel
theorem dX0_init_88 : decode cX0_init 88 = .ok (.newarray .int, 2) := by decide +kernel
theorem dX0_init_90 : decode cX0_init 90 = .ok (.putfield 40, 3) := by decide +kernel
theorem dX0_init_93 : decode cX0_init 93 = .ok (.aload_n 0, 1) := by decide +kernel
theorem dX0_init_94 : decode cX0_init 94 = .ok (.getfield 9, 3) := by decide +kernel
theorem dX0_init_97 : decode cX0_init 97 = .ok (.iconst (-1), 1) := by decide +kernel
theorem dX0_init_98 : decode cX0_init 98 = .ok (.invokestatic 43, 3) := by decide +kernel
theorem dX0_init_101 : decode cX0_init 101 = .ok (.aload_n 0, 1) := by decide +kernel
theorem dX0_init_102 : decode cX0_init 102 = .ok (.getfield 19, 3) := by decide +kernel
theorem dX0_init_105 : decode cX0_init 105 = .ok (.iconst (-1), 1) := by decide +kernel
theorem dX0_init_106 : decode cX0_init 106 = .ok (.invokestatic 43, 3) := by decide +kernel
theorem dX0_init_109 : decode cX0_init 109 = .ok (.aload_n 0, 1) := by decide +kernel
theorem dX0_init_110 : decode cX0_init 110 = .ok (.getfield 13, 3) := by decide +kernel
theorem dX0_init_113 : decode cX0_init 113 = .ok (.iconst 0, 1) := by decide +kernel
theorem dX0_init_114 : decode cX0_init 114 = .ok (.bipush 99, 2) := by decide +kernel
theorem dX0_init_116 : decode cX0_init 116 = .ok (.iastore, 1) := by decide +kernel
theorem dX0_init_117 : decode cX0_init 117 = .ok (.aload_n 0, 1) := by decide +kernel
theorem dX0_init_118 : decode cX0_init 118 = .ok (.iconst 1, 1) := by decide +kernel
theorem dX0_init_119 : decode cX0_init 119 = .ok (.putfield 49, 3) := by decide +kernel
theorem dX0_init_122 : decode cX0_init 122 = .ok (.return_, 1) := by decide +kernel
set_option maxRecDepth 20000 in
theorem ggX0_join_X0_checkKey : GoodIn wsX0_join wsX0_checkKey := goodIn_ca (goodIn_r _ [7, 8, 9, 10, 11, 6, 12] (by decide +kernel) (by decide +kernel)) (goodIn_sub (fun _ h => List.mem_cons_of_mem _ (List.mem_append_left _ (List.mem_append_right _ h))) (by decide +kernel))
set_option maxRecDepth 20000 in
theorem gX0_join_X0_checkKey : GoodIn wsX0_join (va_wsS RX0 53 yX0_checkKey wsX0_checkKey) := goodIn_app (goodIn_of _ (by decide +kernel)) ggX0_join_X0_checkKey
set_option maxRecDepth 20000 in
theorem ggX0_join_X0_checkAddress : GoodIn wsX0_join wsX0_checkAddress := goodIn_ca (goodIn_r _ [15, 16, 17] (by decide +kernel) (by decide +kernel)) (goodIn_sub (fun _ h => List.mem_cons_of_mem _ (List.mem_append_right _ h)) (by decide +kernel))
set_option maxRecDepth 20000 in
theorem gX0_join_X0_checkAddress : GoodIn wsX0_join (va_wsS RX0 57 yX0_checkAddress wsX0_checkAddress) := goodIn_app (goodIn_of _ (by decide +kernel)) ggX0_join_X0_checkAddress
set_option maxRecDepth 20000 in
theorem ggX0_join_X0_isMember : GoodIn wsX0_join wsX0_isMember := goodIn_r _ [21, 22, 23, 24, 6, 25, 26, 27, 28, 29, 30, 31, 32, 33, 34, 35, 36, 37, 38, 39, 40, 41, 42, 43, 44, 45, 46, 47, 48, 49, 50, 51, 52, 10, 11, 12, 66, 67, 68, 69, 70, 71, 72, 73, 74, 75, 76, 77, 78, 79, 80, 81] (by decide +kernel) (by decide +kernel)
set_option maxRecDepth 20000 in
theorem gX0_join_X0_isMember : GoodIn wsX0_join (wsV RX0 60 RX0 yX0_isMember wsX0_isMember) := goodIn_app (goodIn_of _ (by decide +kernel)) ggX0_join_X0_isMember
set_option maxRecDepth 20000 in
theorem ggX0_join_X0_write : GoodIn wsX0_join wsX0_write := goodIn_r _ [56, 26, 27, 28, 6, 29, 30, 31, 32, 33, 34, 35, 36, 37, 38, 39, 40, 41, 42, 43, 44, 57, 58, 59, 60, 49, 50, 51, 52, 10, 11, 12, 61, 62, 63, 64, 65, 66, 67, 68, 69, 70, 71, 72, 73, 74, 75, 76, 77, 78, 79, 80, 81] (by decide +kernel) (by decide +kernel)
set_option maxRecDepth 20000 in
theorem gX0_join_X0_write : GoodIn wsX0_join (wsV RX0 76 RX0 yX0_write wsX0_write) := goodIn_app (goodIn_of _ (by decide +kernel)) ggX0_join_X0_write
theorem dX0_join_0 : decode cX0_join 0 = .ok (.iload_n 1, 1) := by decide +kernel
theorem dX0_join_1 : decode cX0_join 1 = .ok (.invokestatic 53, 3) := by decide +kernel
theorem dX0_join_4 : decode cX0_join 4 = .ok (.iload_n 2, 1) := by decide +kernel
theorem dX0_join_5 : decode cX0_join 5 = .ok (.invokestatic 57, 3) := by decide +kernel
theorem dX0_join_8 : decode cX0_join 8 = .ok (.aload_n 0, 1) := by decide +kernel
theorem dX0_join_9 : decode cX0_join 9 = .ok (.iload_n 1, 1) := by decide +kernel
theorem dX0_join_10 : decode cX0_join 10 = .ok (.invokevirtual 60, 3) := by decide +kernel
theorem dX0_join_13 : decode cX0_join 13 = .ok (.ifCond .eq 13, 3) := by decide +kernel
theorem dX0_join_16 : decode cX0_join 16 = .ok (.new 64, 3) := by decide +kernel
theorem dX0_join_19 : decode cX0_join 19 = .ok (.dup, 1) := by decide +kernel
theorem dX0_join_20 : decode cX0_join 20 = .ok (.ldc 66, 2) := by decide +kernel
theorem dX0_join_22 : decode cX0_join 22 = .ok (.invokespecial 68, 3) := by decide +kernel
theorem dX0_join_25 : decode cX0_join 25 = .ok (.athrow, 1) := by decide +kernel
theorem dX0_join_26 : decode cX0_join 26 = .ok (.aload_n 0, 1) := by decide +kernel
theorem dX0_join_27 : decode cX0_join 27 = .ok (.getfield 71, 3) := by decide +kernel
theorem dX0_join_30 : decode cX0_join 30 = .ok (.bipush 40, 2) := by decide +kernel
theorem dX0_join_32 : decode cX0_join 32 = .ok (.if_icmp .lt 13, 3) := by decide +kernel
theorem dX0_join_35 : decode cX0_join 35 = .ok (.new 64, 3) := by decide +kernel
theorem dX0_join_38 : decode cX0_join 38 = .ok (.dup, 1) := by decide +kernel
theorem dX0_join_39 : decode cX0_join 39 = .ok (.ldc 74, 2) := by decide +kernel
theorem dX0_join_41 : decode cX0_join 41 = .ok (.invokespecial 68, 3) := by decide +kernel
theorem dX0_join_44 : decode cX0_join 44 = .ok (.athrow, 1) := by decide +kernel
theorem dX0_join_45 : decode cX0_join 45 = .ok (.aload_n 0, 1) := by decide +kernel
theorem dX0_join_46 : decode cX0_join 46 = .ok (.iload_n 1, 1) := by decide +kernel
theorem dX0_join_47 : decode cX0_join 47 = .ok (.iload_n 2, 1) := by decide +kernel
theorem dX0_join_48 : decode cX0_join 48 = .ok (.invokevirtual 76, 3) := by decide +kernel
theorem dX0_join_51 : decode cX0_join 51 = .ok (.aload_n 0, 1) := by decide +kernel
theorem dX0_join_52 : decode cX0_join 52 = .ok (.dup, 1) := by decide +kernel
theorem dX0_join_53 : decode cX0_join 53 = .ok (.getfield 71, 3) := by decide +kernel
theorem dX0_join_56 : decode cX0_join 56 = .ok (.iconst 1, 1) := by decide +kernel
theorem dX0_join_57 : decode cX0_join 57 = .ok (.iadd, 1) := by decide +kernel
theorem dX0_join_58 : decode cX0_join 58 = .ok (.putfield 71, 3) := by decide +kernel
theorem dX0_join_61 : decode cX0_join 61 = .ok (.aload_n 0, 1) := by decide +kernel
theorem dX0_join_62 : decode cX0_join 62 = .ok (.getfield 71, 3) := by decide +kernel
theorem dX0_join_65 : decode cX0_join 65 = .ok (.ireturn, 1) := by decide +kernel
set_option maxRecDepth 20000 in
theorem ggX0_address_X0_checkKey : GoodIn wsX0_address wsX0_checkKey := goodIn_ca (goodIn_r _ [4, 5, 6, 7, 8, 3, 9] (by decide +kernel) (by decide +kernel)) (goodIn_sub (fun _ h => List.mem_cons_of_mem _ (List.mem_append_right _ h)) (by decide +kernel))
set_option maxRecDepth 20000 in
theorem gX0_address_X0_checkKey : GoodIn wsX0_address (va_wsS RX0 53 yX0_checkKey wsX0_checkKey) := goodIn_app (goodIn_of _ (by decide +kernel)) ggX0_address_X0_checkKey
set_option maxRecDepth 20000 in
theorem ggX0_address_X0_read : GoodIn wsX0_address wsX0_read := goodIn_r _ [13, 14, 15, 16, 3, 17, 18, 19, 20, 21, 22, 23, 24, 25, 26, 27, 28, 29, 30, 31, 32, 33, 34, 35, 36, 37, 38, 39, 40, 7, 8, 9, 41, 42, 43, 44, 45, 46, 47, 48, 49, 50, 51, 52, 53, 54, 55, 56] (by decide +kernel) (by decide +kernel)
set_option maxRecDepth 20000 in
theorem gX0_address_X0_read : GoodIn wsX0_address (wsV RX0 83 RX0 yX0_read wsX0_read) := goodIn_app (goodIn_of _ (by decide +kernel)) ggX0_address_X0_read
theorem dX0_address_0 : decode cX0_address 0 = .ok (.iload_n 1, 1) := by decide +kernel
theorem dX0_address_1 : decode cX0_address 1 = .ok (.invokestatic 53, 3) := by decide +kernel
theorem dX0_address_4 : decode cX0_address 4 = .ok (.aload_n 0, 1) := by decide +kernel
theorem dX0_address_5 : decode cX0_address 5 = .ok (.iload_n 1, 1) := by decide +kernel
theorem dX0_address_6 : decode cX0_address 6 = .ok (.invokevirtual 83, 3) := by decide +kernel
theorem dX0_address_9 : decode cX0_address 9 = .ok (.ireturn, 1) := by decide +kernel
set_option maxRecDepth 20000 in
theorem ggX0_inDistrict_X0_checkDistrict : GoodIn wsX0_inDistrict wsX0_checkDistrict := goodIn_ca (goodIn_r _ [4, 5, 6] (by decide +kernel) (by decide +kernel)) (goodIn_sub (fun _ h => List.mem_cons_of_mem _ (List.mem_append_right _ h)) (by decide +kernel))
set_option maxRecDepth 20000 in
theorem gX0_inDistrict_X0_checkDistrict : GoodIn wsX0_inDistrict (va_wsS RX0 87 yX0_checkDistrict wsX0_checkDistrict) := goodIn_app (goodIn_of _ (by decide +kernel)) ggX0_inDistrict_X0_checkDistrict
set_option maxRecDepth 20000 in
theorem ggX0_inDistrict_X0_read : GoodIn wsX0_inDistrict wsX0_read := goodIn_r _ [10, 11, 12, 13, 3, 14, 15, 16, 17, 18, 19, 20, 21, 22, 23, 24, 25, 26, 27, 28, 29, 30, 31, 32, 33, 34, 35, 36, 37, 38, 39, 40, 44, 45, 46, 47, 48, 49, 50, 51, 52, 53, 54, 55, 56, 57, 58, 59] (by decide +kernel) (by decide +kernel)
set_option maxRecDepth 20000 in
theorem gX0_inDistrict_X0_read : GoodIn wsX0_inDistrict (wsV RX0 83 RX0 yX0_read wsX0_read) := goodIn_app (goodIn_of _ (by decide +kernel)) ggX0_inDistrict_X0_read
set_option maxRecDepth 20000 in
theorem ggX0_inDistrict_X0_districtOf : GoodIn wsX0_inDistrict wsX0_districtOf := goodIn_r _ [43] (by decide +kernel) (by decide +kernel)
set_option maxRecDepth 20000 in
theorem gX0_inDistrict_X0_districtOf : GoodIn wsX0_inDistrict (va_wsS RX0 90 yX0_districtOf wsX0_districtOf) := goodIn_app (goodIn_of _ (by decide +kernel)) ggX0_inDistrict_X0_districtOf
theorem dX0_inDistrict_0 : decode cX0_inDistrict 0 = .ok (.iload_n 1, 1) := by decide +kernel
theorem dX0_inDistrict_1 : decode cX0_inDistrict 1 = .ok (.invokestatic 87, 3) := by decide +kernel
theorem dX0_inDistrict_4 : decode cX0_inDistrict 4 = .ok (.iconst 0, 1) := by decide +kernel
theorem dX0_inDistrict_5 : decode cX0_inDistrict 5 = .ok (.istore_n 2, 1) := by decide +kernel
theorem dX0_inDistrict_6 : decode cX0_inDistrict 6 = .ok (.iconst 0, 1) := by decide +kernel
theorem dX0_inDistrict_7 : decode cX0_inDistrict 7 = .ok (.istore_n 3, 1) := by decide +kernel
theorem dX0_inDistrict_8 : decode cX0_inDistrict 8 = .ok (.iload_n 3, 1) := by decide +kernel
theorem dX0_inDistrict_9 : decode cX0_inDistrict 9 = .ok (.bipush 100, 2) := by decide +kernel
theorem dX0_inDistrict_11 : decode cX0_inDistrict 11 = .ok (.if_icmp .ge 24, 3) := by decide +kernel
theorem dX0_inDistrict_14 : decode cX0_inDistrict 14 = .ok (.aload_n 0, 1) := by decide +kernel
theorem dX0_inDistrict_15 : decode cX0_inDistrict 15 = .ok (.iload_n 3, 1) := by decide +kernel
theorem dX0_inDistrict_16 : decode cX0_inDistrict 16 = .ok (.invokevirtual 83, 3) := by decide +kernel
theorem dX0_inDistrict_19 : decode cX0_inDistrict 19 = .ok (.invokestatic 90, 3) := by decide +kernel
theorem dX0_inDistrict_22 : decode cX0_inDistrict 22 = .ok (.iload_n 1, 1) := by decide +kernel
theorem dX0_inDistrict_23 : decode cX0_inDistrict 23 = .ok (.if_icmp .ne 6, 3) := by decide +kernel
theorem dX0_inDistrict_26 : decode cX0_inDistrict 26 = .ok (.iinc 2 1, 3) := by decide +kernel
theorem dX0_inDistrict_29 : decode cX0_inDistrict 29 = .ok (.iinc 3 1, 3) := by decide +kernel
theorem dX0_inDistrict_32 : decode cX0_inDistrict 32 = .ok (.goto (-24), 3) := by decide +kernel
theorem dX0_inDistrict_35 : decode cX0_inDistrict 35 = .ok (.iload_n 2, 1) := by decide +kernel
theorem dX0_inDistrict_36 : decode cX0_inDistrict 36 = .ok (.ireturn, 1) := by decide +kernel
theorem dX0_ranges_0 : decode cX0_ranges 0 = .ok (.aload_n 0, 1) := by decide +kernel
theorem dX0_ranges_1 : decode cX0_ranges 1 = .ok (.getfield 49, 3) := by decide +kernel
theorem dX0_ranges_4 : decode cX0_ranges 4 = .ok (.ireturn, 1) := by decide +kernel
set_option maxRecDepth 20000 in
theorem ggX0_rangeOf_X0_checkKey : GoodIn wsX0_rangeOf wsX0_checkKey := goodIn_ca (goodIn_r _ [4, 5, 6, 7, 8, 3, 9] (by decide +kernel) (by decide +kernel)) (goodIn_sub (fun _ h => List.mem_cons_of_mem _ (List.mem_append_right _ h)) (by decide +kernel))
set_option maxRecDepth 20000 in
theorem gX0_rangeOf_X0_checkKey : GoodIn wsX0_rangeOf (va_wsS RX0 53 yX0_checkKey wsX0_checkKey) := goodIn_app (goodIn_of _ (by decide +kernel)) ggX0_rangeOf_X0_checkKey
set_option maxRecDepth 20000 in
theorem ggX0_rangeOf_X0_rangeHolding : GoodIn wsX0_rangeOf wsX0_rangeHolding := goodIn_r _ [13, 14, 15, 16, 17, 3, 18, 19, 20, 21, 22, 23, 24, 25, 26, 27, 28, 29, 30, 31, 32, 33, 34, 35, 36, 37, 38, 39] (by decide +kernel) (by decide +kernel)
set_option maxRecDepth 20000 in
theorem gX0_rangeOf_X0_rangeHolding : GoodIn wsX0_rangeOf (wsV RX0 93 RX0 yX0_rangeHolding wsX0_rangeHolding) := goodIn_app (goodIn_of _ (by decide +kernel)) ggX0_rangeOf_X0_rangeHolding
theorem dX0_rangeOf_0 : decode cX0_rangeOf 0 = .ok (.iload_n 1, 1) := by decide +kernel
theorem dX0_rangeOf_1 : decode cX0_rangeOf 1 = .ok (.invokestatic 53, 3) := by decide +kernel
theorem dX0_rangeOf_4 : decode cX0_rangeOf 4 = .ok (.aload_n 0, 1) := by decide +kernel
theorem dX0_rangeOf_5 : decode cX0_rangeOf 5 = .ok (.iload_n 1, 1) := by decide +kernel
theorem dX0_rangeOf_6 : decode cX0_rangeOf 6 = .ok (.invokevirtual 93, 3) := by decide +kernel
theorem dX0_rangeOf_9 : decode cX0_rangeOf 9 = .ok (.ireturn, 1) := by decide +kernel
set_option maxRecDepth 20000 in
theorem ggX0_shardOf_X0_checkRange : GoodIn wsX0_shardOf wsX0_checkRange := goodIn_ca (goodIn_r _ [6, 7, 8, 9, 10, 11, 5, 12, 13, 14, 15, 16, 17, 18, 19, 20, 21, 22, 23, 24, 25, 26, 27, 28, 29] (by decide +kernel) (by decide +kernel)) (goodIn_sub (fun _ h => List.mem_cons_of_mem _ (List.mem_append_right _ h)) (by decide +kernel))
set_option maxRecDepth 20000 in
theorem gX0_shardOf_X0_checkRange : GoodIn wsX0_shardOf (wsV RX0 114 RX0 yX0_checkRange wsX0_checkRange) := goodIn_app (goodIn_of _ (by decide +kernel)) ggX0_shardOf_X0_checkRange
theorem dX0_shardOf_0 : decode cX0_shardOf 0 = .ok (.aload_n 0, 1) := by decide +kernel
theorem dX0_shardOf_1 : decode cX0_shardOf 1 = .ok (.iload_n 1, 1) := by decide +kernel
theorem dX0_shardOf_2 : decode cX0_shardOf 2 = .ok (.invokevirtual 114, 3) := by decide +kernel
theorem dX0_shardOf_5 : decode cX0_shardOf 5 = .ok (.aload_n 0, 1) := by decide +kernel
theorem dX0_shardOf_6 : decode cX0_shardOf 6 = .ok (.getfield 16, 3) := by decide +kernel
theorem dX0_shardOf_9 : decode cX0_shardOf 9 = .ok (.iload_n 1, 1) := by decide +kernel
theorem dX0_shardOf_10 : decode cX0_shardOf 10 = .ok (.iaload, 1) := by decide +kernel
theorem dX0_shardOf_11 : decode cX0_shardOf 11 = .ok (.ireturn, 1) := by decide +kernel
set_option maxRecDepth 20000 in
theorem ggX0_rows_X0_checkShard : GoodIn wsX0_rows wsX0_checkShard := goodIn_ca (goodIn_r _ [4, 5, 6, 7, 8, 3, 9] (by decide +kernel) (by decide +kernel)) (goodIn_sub (fun _ h => List.mem_cons_of_mem _ (List.mem_append_right _ h)) (by decide +kernel))
set_option maxRecDepth 20000 in
theorem gX0_rows_X0_checkShard : GoodIn wsX0_rows (va_wsS RX0 132 yX0_checkShard wsX0_checkShard) := goodIn_app (goodIn_of _ (by decide +kernel)) ggX0_rows_X0_checkShard
set_option maxRecDepth 20000 in
theorem ggX0_rows_X0_countRows : GoodIn wsX0_rows wsX0_countRows := goodIn_r _ [13, 14, 15, 16, 3, 17, 18, 7, 8, 9, 19, 20, 21, 22, 23, 24, 25, 26, 27, 28, 29, 30, 31, 32, 33, 34, 35, 36, 37] (by decide +kernel) (by decide +kernel)
set_option maxRecDepth 20000 in
theorem gX0_rows_X0_countRows : GoodIn wsX0_rows (wsV RX0 142 RX0 yX0_countRows wsX0_countRows) := goodIn_app (goodIn_of _ (by decide +kernel)) ggX0_rows_X0_countRows
theorem dX0_rows_0 : decode cX0_rows 0 = .ok (.iload_n 1, 1) := by decide +kernel
theorem dX0_rows_1 : decode cX0_rows 1 = .ok (.invokestatic 132, 3) := by decide +kernel
theorem dX0_rows_4 : decode cX0_rows 4 = .ok (.aload_n 0, 1) := by decide +kernel
theorem dX0_rows_5 : decode cX0_rows 5 = .ok (.iload_n 1, 1) := by decide +kernel
theorem dX0_rows_6 : decode cX0_rows 6 = .ok (.iconst 0, 1) := by decide +kernel
theorem dX0_rows_7 : decode cX0_rows 7 = .ok (.bipush 99, 2) := by decide +kernel
theorem dX0_rows_9 : decode cX0_rows 9 = .ok (.invokevirtual 142, 3) := by decide +kernel
theorem dX0_rows_12 : decode cX0_rows 12 = .ok (.ireturn, 1) := by decide +kernel
set_option maxRecDepth 20000 in
theorem ggX0_onRoll_X0_checkKey : GoodIn wsX0_onRoll wsX0_checkKey := goodIn_ca (goodIn_r _ [6, 7, 8, 9, 10, 5, 11] (by decide +kernel) (by decide +kernel)) (goodIn_sub (fun _ h => List.mem_cons_of_mem _ (List.mem_append_right _ h)) (by decide +kernel))
set_option maxRecDepth 20000 in
theorem gX0_onRoll_X0_checkKey : GoodIn wsX0_onRoll (va_wsS RX0 53 yX0_checkKey wsX0_checkKey) := goodIn_app (goodIn_of _ (by decide +kernel)) ggX0_onRoll_X0_checkKey
theorem dX0_onRoll_0 : decode cX0_onRoll 0 = .ok (.iload_n 1, 1) := by decide +kernel
theorem dX0_onRoll_1 : decode cX0_onRoll 1 = .ok (.invokestatic 53, 3) := by decide +kernel
theorem dX0_onRoll_4 : decode cX0_onRoll 4 = .ok (.aload_n 0, 1) := by decide +kernel
theorem dX0_onRoll_5 : decode cX0_onRoll 5 = .ok (.getfield 163, 3) := by decide +kernel
theorem dX0_onRoll_8 : decode cX0_onRoll 8 = .ok (.ifCond .eq 12, 3) := by decide +kernel
theorem dX0_onRoll_11 : decode cX0_onRoll 11 = .ok (.aload_n 0, 1) := by decide +kernel
theorem dX0_onRoll_12 : decode cX0_onRoll 12 = .ok (.getfield 22, 3) := by decide +kernel
theorem dX0_onRoll_15 : decode cX0_onRoll 15 = .ok (.iload_n 1, 1) := by decide +kernel
theorem dX0_onRoll_16 : decode cX0_onRoll 16 = .ok (.iaload, 1) := by decide +kernel
theorem dX0_onRoll_17 : decode cX0_onRoll 17 = .ok (.goto 4, 3) := by decide +kernel
theorem dX0_onRoll_20 : decode cX0_onRoll 20 = .ok (.iconst (-1), 1) := by decide +kernel
theorem dX0_onRoll_21 : decode cX0_onRoll 21 = .ok (.ireturn, 1) := by decide +kernel
set_option maxRecDepth 20000 in
theorem ggX0_sentTo_X0_checkBallot : GoodIn wsX0_sentTo wsX0_checkBallot := goodIn_ca (goodIn_r _ [6, 7, 8, 9, 10, 11, 5, 12, 13, 14, 15, 16, 17, 18, 19, 20, 21, 22, 23, 24, 25, 26, 27, 28, 29] (by decide +kernel) (by decide +kernel)) (goodIn_sub (fun _ h => List.mem_cons_of_mem _ (List.mem_append_right _ h)) (by decide +kernel))
set_option maxRecDepth 20000 in
theorem gX0_sentTo_X0_checkBallot : GoodIn wsX0_sentTo (wsV RX0 187 RX0 yX0_checkBallot wsX0_checkBallot) := goodIn_app (goodIn_of _ (by decide +kernel)) ggX0_sentTo_X0_checkBallot
theorem dX0_sentTo_0 : decode cX0_sentTo 0 = .ok (.aload_n 0, 1) := by decide +kernel
theorem dX0_sentTo_1 : decode cX0_sentTo 1 = .ok (.iload_n 1, 1) := by decide +kernel
theorem dX0_sentTo_2 : decode cX0_sentTo 2 = .ok (.invokevirtual 187, 3) := by decide +kernel
theorem dX0_sentTo_5 : decode cX0_sentTo 5 = .ok (.aload_n 0, 1) := by decide +kernel
theorem dX0_sentTo_6 : decode cX0_sentTo 6 = .ok (.getfield 31, 3) := by decide +kernel
theorem dX0_sentTo_9 : decode cX0_sentTo 9 = .ok (.iload_n 1, 1) := by decide +kernel
theorem dX0_sentTo_10 : decode cX0_sentTo 10 = .ok (.iaload, 1) := by decide +kernel
theorem dX0_sentTo_11 : decode cX0_sentTo 11 = .ok (.ireturn, 1) := by decide +kernel
set_option maxRecDepth 20000 in
theorem ggX0_stateOf_X0_checkBallot : GoodIn wsX0_stateOf wsX0_checkBallot := goodIn_ca (goodIn_r _ [6, 7, 8, 9, 10, 11, 5, 12, 13, 14, 15, 16, 17, 18, 19, 20, 21, 22, 23, 24, 25, 26, 27, 28, 29] (by decide +kernel) (by decide +kernel)) (goodIn_sub (fun _ h => List.mem_cons_of_mem _ (List.mem_append_right _ h)) (by decide +kernel))
set_option maxRecDepth 20000 in
theorem gX0_stateOf_X0_checkBallot : GoodIn wsX0_stateOf (wsV RX0 187 RX0 yX0_checkBallot wsX0_checkBallot) := goodIn_app (goodIn_of _ (by decide +kernel)) ggX0_stateOf_X0_checkBallot
theorem dX0_stateOf_0 : decode cX0_stateOf 0 = .ok (.aload_n 0, 1) := by decide +kernel
theorem dX0_stateOf_1 : decode cX0_stateOf 1 = .ok (.iload_n 1, 1) := by decide +kernel
theorem dX0_stateOf_2 : decode cX0_stateOf 2 = .ok (.invokevirtual 187, 3) := by decide +kernel
theorem dX0_stateOf_5 : decode cX0_stateOf 5 = .ok (.aload_n 0, 1) := by decide +kernel
theorem dX0_stateOf_6 : decode cX0_stateOf 6 = .ok (.getfield 37, 3) := by decide +kernel
theorem dX0_stateOf_9 : decode cX0_stateOf 9 = .ok (.iload_n 1, 1) := by decide +kernel
theorem dX0_stateOf_10 : decode cX0_stateOf 10 = .ok (.iaload, 1) := by decide +kernel
theorem dX0_stateOf_11 : decode cX0_stateOf 11 = .ok (.ireturn, 1) := by decide +kernel
set_option maxRecDepth 20000 in
theorem ggX0_counted_X0_checkDistrict : GoodIn wsX0_counted wsX0_checkDistrict := goodIn_ca (goodIn_r _ [8, 9, 10] (by decide +kernel) (by decide +kernel)) (goodIn_sub (fun _ h => List.mem_cons_of_mem _ (List.mem_append_left _ (List.mem_append_right _ h))) (by decide +kernel))
set_option maxRecDepth 20000 in
theorem gX0_counted_X0_checkDistrict : GoodIn wsX0_counted (va_wsS RX0 87 yX0_checkDistrict wsX0_checkDistrict) := goodIn_app (goodIn_of _ (by decide +kernel)) ggX0_counted_X0_checkDistrict
set_option maxRecDepth 20000 in
theorem ggX0_counted_X0_checkChoice : GoodIn wsX0_counted wsX0_checkChoice := goodIn_ca (goodIn_r _ [13, 14, 15] (by decide +kernel) (by decide +kernel)) (goodIn_sub (fun _ h => List.mem_cons_of_mem _ (List.mem_append_right _ h)) (by decide +kernel))
set_option maxRecDepth 20000 in
theorem gX0_counted_X0_checkChoice : GoodIn wsX0_counted (va_wsS RX0 190 yX0_checkChoice wsX0_checkChoice) := goodIn_app (goodIn_of _ (by decide +kernel)) ggX0_counted_X0_checkChoice
theorem dX0_counted_0 : decode cX0_counted 0 = .ok (.iload_n 1, 1) := by decide +kernel
theorem dX0_counted_1 : decode cX0_counted 1 = .ok (.invokestatic 87, 3) := by decide +kernel
theorem dX0_counted_4 : decode cX0_counted 4 = .ok (.iload_n 2, 1) := by decide +kernel
theorem dX0_counted_5 : decode cX0_counted 5 = .ok (.invokestatic 190, 3) := by decide +kernel
theorem dX0_counted_8 : decode cX0_counted 8 = .ok (.iconst 0, 1) := by decide +kernel
theorem dX0_counted_9 : decode cX0_counted 9 = .ok (.istore_n 3, 1) := by decide +kernel
theorem dX0_counted_10 : decode cX0_counted 10 = .ok (.iconst 0, 1) := by decide +kernel
theorem dX0_counted_11 : decode cX0_counted 11 = .ok (.istore 4, 2) := by decide +kernel
theorem dX0_counted_13 : decode cX0_counted 13 = .ok (.iload 4, 2) := by decide +kernel
theorem dX0_counted_15 : decode cX0_counted 15 = .ok (.aload_n 0, 1) := by decide +kernel
theorem dX0_counted_16 : decode cX0_counted 16 = .ok (.getfield 182, 3) := by decide +kernel
theorem dX0_counted_19 : decode cX0_counted 19 = .ok (.if_icmp .ge 45, 3) := by decide +kernel
theorem dX0_counted_22 : decode cX0_counted 22 = .ok (.aload_n 0, 1) := by decide +kernel
theorem dX0_counted_23 : decode cX0_counted 23 = .ok (.getfield 37, 3) := by decide +kernel
theorem dX0_counted_26 : decode cX0_counted 26 = .ok (.iload 4, 2) := by decide +kernel
theorem dX0_counted_28 : decode cX0_counted 28 = .ok (.iaload, 1) := by decide +kernel
theorem dX0_counted_29 : decode cX0_counted 29 = .ok (.iconst 2, 1) := by decide +kernel
theorem dX0_counted_30 : decode cX0_counted 30 = .ok (.if_icmp .ne 28, 3) := by decide +kernel
theorem dX0_counted_33 : decode cX0_counted 33 = .ok (.aload_n 0, 1) := by decide +kernel
theorem dX0_counted_34 : decode cX0_counted 34 = .ok (.getfield 34, 3) := by decide +kernel
theorem dX0_counted_37 : decode cX0_counted 37 = .ok (.iload 4, 2) := by decide +kernel
theorem dX0_counted_39 : decode cX0_counted 39 = .ok (.iaload, 1) := by decide +kernel
theorem dX0_counted_40 : decode cX0_counted 40 = .ok (.iload_n 1, 1) := by decide +kernel
theorem dX0_counted_41 : decode cX0_counted 41 = .ok (.if_icmp .ne 17, 3) := by decide +kernel
theorem dX0_counted_44 : decode cX0_counted 44 = .ok (.aload_n 0, 1) := by decide +kernel
theorem dX0_counted_45 : decode cX0_counted 45 = .ok (.getfield 40, 3) := by decide +kernel
theorem dX0_counted_48 : decode cX0_counted 48 = .ok (.iload 4, 2) := by decide +kernel
theorem dX0_counted_50 : decode cX0_counted 50 = .ok (.iaload, 1) := by decide +kernel
theorem dX0_counted_51 : decode cX0_counted 51 = .ok (.iload_n 2, 1) := by decide +kernel
theorem dX0_counted_52 : decode cX0_counted 52 = .ok (.if_icmp .ne 6, 3) := by decide +kernel
theorem dX0_counted_55 : decode cX0_counted 55 = .ok (.iinc 3 1, 3) := by decide +kernel
theorem dX0_counted_58 : decode cX0_counted 58 = .ok (.iinc 4 1, 3) := by decide +kernel
theorem dX0_counted_61 : decode cX0_counted 61 = .ok (.goto (-48), 3) := by decide +kernel
theorem dX0_counted_64 : decode cX0_counted 64 = .ok (.iload_n 3, 1) := by decide +kernel
theorem dX0_counted_65 : decode cX0_counted 65 = .ok (.ireturn, 1) := by decide +kernel
set_option maxRecDepth 20000 in
theorem ggX0_rowOf_X0_isShard : GoodIn wsX0_rowOf wsX0_isShard := goodIn_r _ [5] (by decide +kernel) (by decide +kernel)
set_option maxRecDepth 20000 in
theorem gX0_rowOf_X0_isShard : GoodIn wsX0_rowOf (va_wsS RX0 202 yX0_isShard wsX0_isShard) := goodIn_app (goodIn_of _ (by decide +kernel)) ggX0_rowOf_X0_isShard
set_option maxRecDepth 20000 in
theorem ggX0_rowOf_X0_isKey : GoodIn wsX0_rowOf wsX0_isKey := goodIn_r _ [8] (by decide +kernel) (by decide +kernel)
set_option maxRecDepth 20000 in
theorem gX0_rowOf_X0_isKey : GoodIn wsX0_rowOf (va_wsS RX0 205 yX0_isKey wsX0_isKey) := goodIn_app (goodIn_of _ (by decide +kernel)) ggX0_rowOf_X0_isKey
theorem dX0_rowOf_0 : decode cX0_rowOf 0 = .ok (.iload_n 1, 1) := by decide +kernel
theorem dX0_rowOf_1 : decode cX0_rowOf 1 = .ok (.invokestatic 202, 3) := by decide +kernel
theorem dX0_rowOf_4 : decode cX0_rowOf 4 = .ok (.ifCond .eq 24, 3) := by decide +kernel
theorem dX0_rowOf_7 : decode cX0_rowOf 7 = .ok (.iload_n 2, 1) := by decide +kernel
theorem dX0_rowOf_8 : decode cX0_rowOf 8 = .ok (.invokestatic 205, 3) := by decide +kernel
theorem dX0_rowOf_11 : decode cX0_rowOf 11 = .ok (.ifCond .eq 17, 3) := by decide +kernel
theorem dX0_rowOf_14 : decode cX0_rowOf 14 = .ok (.aload_n 0, 1) := by decide +kernel
theorem dX0_rowOf_15 : decode cX0_rowOf 15 = .ok (.getfield 9, 3) := by decide +kernel
theorem dX0_rowOf_18 : decode cX0_rowOf 18 = .ok (.iload_n 1, 1) := by decide +kernel
theorem dX0_rowOf_19 : decode cX0_rowOf 19 = .ok (.bipush 100, 2) := by decide +kernel
theorem dX0_rowOf_21 : decode cX0_rowOf 21 = .ok (.imul, 1) := by decide +kernel
theorem dX0_rowOf_22 : decode cX0_rowOf 22 = .ok (.iload_n 2, 1) := by decide +kernel
theorem dX0_rowOf_23 : decode cX0_rowOf 23 = .ok (.iadd, 1) := by decide +kernel
theorem dX0_rowOf_24 : decode cX0_rowOf 24 = .ok (.iaload, 1) := by decide +kernel
theorem dX0_rowOf_25 : decode cX0_rowOf 25 = .ok (.goto 4, 3) := by decide +kernel
theorem dX0_rowOf_28 : decode cX0_rowOf 28 = .ok (.iconst (-1), 1) := by decide +kernel
theorem dX0_rowOf_29 : decode cX0_rowOf 29 = .ok (.ireturn, 1) := by decide +kernel
set_option maxRecDepth 20000 in
theorem ggX0_putRow_X0_isShard : GoodIn wsX0_putRow wsX0_isShard := goodIn_r _ [5] (by decide +kernel) (by decide +kernel)
set_option maxRecDepth 20000 in
theorem gX0_putRow_X0_isShard : GoodIn wsX0_putRow (va_wsS RX0 202 yX0_isShard wsX0_isShard) := goodIn_app (goodIn_of _ (by decide +kernel)) ggX0_putRow_X0_isShard
set_option maxRecDepth 20000 in
theorem ggX0_putRow_X0_isKey : GoodIn wsX0_putRow wsX0_isKey := goodIn_r _ [8] (by decide +kernel) (by decide +kernel)
set_option maxRecDepth 20000 in
theorem gX0_putRow_X0_isKey : GoodIn wsX0_putRow (va_wsS RX0 205 yX0_isKey wsX0_isKey) := goodIn_app (goodIn_of _ (by decide +kernel)) ggX0_putRow_X0_isKey
theorem dX0_putRow_0 : decode cX0_putRow 0 = .ok (.iload_n 1, 1) := by decide +kernel
theorem dX0_putRow_1 : decode cX0_putRow 1 = .ok (.invokestatic 202, 3) := by decide +kernel
theorem dX0_putRow_4 : decode cX0_putRow 4 = .ok (.ifCond .eq 22, 3) := by decide +kernel
theorem dX0_putRow_7 : decode cX0_putRow 7 = .ok (.iload_n 2, 1) := by decide +kernel
theorem dX0_putRow_8 : decode cX0_putRow 8 = .ok (.invokestatic 205, 3) := by decide +kernel
theorem dX0_putRow_11 : decode cX0_putRow 11 = .ok (.ifCond .eq 15, 3) := by decide +kernel
theorem dX0_putRow_14 : decode cX0_putRow 14 = .ok (.aload_n 0, 1) := by decide +kernel
theorem dX0_putRow_15 : decode cX0_putRow 15 = .ok (.getfield 9, 3) := by decide +kernel
theorem dX0_putRow_18 : decode cX0_putRow 18 = .ok (.iload_n 1, 1) := by decide +kernel
theorem dX0_putRow_19 : decode cX0_putRow 19 = .ok (.bipush 100, 2) := by decide +kernel
theorem dX0_putRow_21 : decode cX0_putRow 21 = .ok (.imul, 1) := by decide +kernel
theorem dX0_putRow_22 : decode cX0_putRow 22 = .ok (.iload_n 2, 1) := by decide +kernel
theorem dX0_putRow_23 : decode cX0_putRow 23 = .ok (.iadd, 1) := by decide +kernel
theorem dX0_putRow_24 : decode cX0_putRow 24 = .ok (.iload_n 3, 1) := by decide +kernel
theorem dX0_putRow_25 : decode cX0_putRow 25 = .ok (.iastore, 1) := by decide +kernel
theorem dX0_putRow_26 : decode cX0_putRow 26 = .ok (.return_, 1) := by decide +kernel
set_option maxRecDepth 20000 in
theorem ggX0_read_X0_rangeHolding : GoodIn wsX0_read wsX0_rangeHolding := goodIn_r _ [5, 6, 7, 8, 9, 4, 10, 11, 12, 13, 14, 15, 32, 33, 34, 35, 36, 37, 38, 39, 40, 41, 42, 43, 44, 45, 46, 47] (by decide +kernel) (by decide +kernel)
set_option maxRecDepth 20000 in
theorem gX0_read_X0_rangeHolding : GoodIn wsX0_read (wsV RX0 93 RX0 yX0_rangeHolding wsX0_rangeHolding) := goodIn_app (goodIn_of _ (by decide +kernel)) ggX0_read_X0_rangeHolding
set_option maxRecDepth 20000 in
theorem ggX0_read_X0_homeOf : GoodIn wsX0_read wsX0_homeOf := goodIn_r _ [19, 20, 12, 13, 14, 4, 15, 6, 32, 33, 34, 35, 36, 37, 38, 39, 40, 41, 42, 43, 44, 45, 46, 47] (by decide +kernel) (by decide +kernel)
set_option maxRecDepth 20000 in
theorem gX0_read_X0_homeOf : GoodIn wsX0_read (wsV RX0 122 RX0 yX0_homeOf wsX0_homeOf) := goodIn_app (goodIn_of _ (by decide +kernel)) ggX0_read_X0_homeOf
set_option maxRecDepth 20000 in
theorem ggX0_read_X0_rowOf : GoodIn wsX0_read wsX0_rowOf := goodIn_r _ [24, 25, 26, 27, 4, 28, 29, 30, 31, 32, 33, 34, 35, 36, 37, 38, 39, 40, 41, 42, 43, 44, 45, 46, 47] (by decide +kernel) (by decide +kernel)
set_option maxRecDepth 20000 in
theorem gX0_read_X0_rowOf : GoodIn wsX0_read (wsV RX0 152 RX0 yX0_rowOf wsX0_rowOf) := goodIn_app (goodIn_of _ (by decide +kernel)) ggX0_read_X0_rowOf
theorem dX0_read_0 : decode cX0_read 0 = .ok (.aload_n 0, 1) := by decide +kernel
theorem dX0_read_1 : decode cX0_read 1 = .ok (.aload_n 0, 1) := by decide +kernel
theorem dX0_read_2 : decode cX0_read 2 = .ok (.aload_n 0, 1) := by decide +kernel
theorem dX0_read_3 : decode cX0_read 3 = .ok (.iload_n 1, 1) := by decide +kernel
theorem dX0_read_4 : decode cX0_read 4 = .ok (.invokevirtual 93, 3) := by decide +kernel
theorem dX0_read_7 : decode cX0_read 7 = .ok (.invokevirtual 122, 3) := by decide +kernel
theorem dX0_read_10 : decode cX0_read 10 = .ok (.iload_n 1, 1) := by decide +kernel
theorem dX0_read_11 : decode cX0_read 11 = .ok (.invokevirtual 152, 3) := by decide +kernel
theorem dX0_read_14 : decode cX0_read 14 = .ok (.ireturn, 1) := by decide +kernel
set_option maxRecDepth 20000 in
theorem ggX0_write_X0_rangeHolding : GoodIn wsX0_write wsX0_rangeHolding := goodIn_r _ [5, 6, 7, 8, 9, 4, 10, 11, 12, 13, 14, 15, 37, 38, 39, 40, 41, 42, 43, 44, 45, 46, 47, 48, 49, 50, 51, 52] (by decide +kernel) (by decide +kernel)
set_option maxRecDepth 20000 in
theorem gX0_write_X0_rangeHolding : GoodIn wsX0_write (wsV RX0 93 RX0 yX0_rangeHolding wsX0_rangeHolding) := goodIn_app (goodIn_of _ (by decide +kernel)) ggX0_write_X0_rangeHolding
set_option maxRecDepth 20000 in
theorem ggX0_write_X0_homeOf : GoodIn wsX0_write wsX0_homeOf := goodIn_r _ [19, 20, 12, 13, 14, 4, 15, 6, 37, 38, 39, 40, 41, 42, 43, 44, 45, 46, 47, 48, 49, 50, 51, 52] (by decide +kernel) (by decide +kernel)
set_option maxRecDepth 20000 in
theorem gX0_write_X0_homeOf : GoodIn wsX0_write (wsV RX0 122 RX0 yX0_homeOf wsX0_homeOf) := goodIn_app (goodIn_of _ (by decide +kernel)) ggX0_write_X0_homeOf
set_option maxRecDepth 20000 in
theorem ggX0_write_X0_putRow : GoodIn wsX0_write wsX0_putRow := goodIn_r _ [24, 25, 26, 27, 4, 28, 29, 30, 31, 37, 38, 39, 40, 41, 42, 43, 44, 45, 46, 47, 48, 49, 50, 51, 52] (by decide +kernel) (by decide +kernel)
set_option maxRecDepth 20000 in
theorem gX0_write_X0_putRow : GoodIn wsX0_write (wsV RX0 156 RX0 yX0_putRow wsX0_putRow) := goodIn_app (goodIn_of _ (by decide +kernel)) ggX0_write_X0_putRow
set_option maxRecDepth 20000 in
theorem ggX0_write_X0_targetOf : GoodIn wsX0_write wsX0_targetOf := goodIn_r _ [35, 36, 12, 13, 14, 4, 15, 6, 37, 38, 39, 40, 41, 42, 43, 44, 45, 46, 47, 48, 49, 50, 51, 52] (by decide +kernel) (by decide +kernel)
set_option maxRecDepth 20000 in
theorem gX0_write_X0_targetOf : GoodIn wsX0_write (wsV RX0 208 RX0 yX0_targetOf wsX0_targetOf) := goodIn_app (goodIn_of _ (by decide +kernel)) ggX0_write_X0_targetOf
theorem dX0_write_0 : decode cX0_write 0 = .ok (.aload_n 0, 1) := by decide +kernel
theorem dX0_write_1 : decode cX0_write 1 = .ok (.iload_n 1, 1) := by decide +kernel
theorem dX0_write_2 : decode cX0_write 2 = .ok (.invokevirtual 93, 3) := by decide +kernel
theorem dX0_write_5 : decode cX0_write 5 = .ok (.istore_n 3, 1) := by decide +kernel
theorem dX0_write_6 : decode cX0_write 6 = .ok (.aload_n 0, 1) := by decide +kernel
theorem dX0_write_7 : decode cX0_write 7 = .ok (.aload_n 0, 1) := by decide +kernel
theorem dX0_write_8 : decode cX0_write 8 = .ok (.iload_n 3, 1) := by decide +kernel
theorem dX0_write_9 : decode cX0_write 9 = .ok (.invokevirtual 122, 3) := by decide +kernel
theorem dX0_write_12 : decode cX0_write 12 = .ok (.iload_n 1, 1) := by decide +kernel
theorem dX0_write_13 : decode cX0_write 13 = .ok (.iload_n 2, 1) := by decide +kernel
theorem dX0_write_14 : decode cX0_write 14 = .ok (.invokevirtual 156, 3) := by decide +kernel
theorem dX0_write_17 : decode cX0_write 17 = .ok (.aload_n 0, 1) := by decide +kernel
theorem dX0_write_18 : decode cX0_write 18 = .ok (.aload_n 0, 1) := by decide +kernel
theorem dX0_write_19 : decode cX0_write 19 = .ok (.iload_n 3, 1) := by decide +kernel
theorem dX0_write_20 : decode cX0_write 20 = .ok (.invokevirtual 208, 3) := by decide +kernel
theorem dX0_write_23 : decode cX0_write 23 = .ok (.iload_n 1, 1) := by decide +kernel
theorem dX0_write_24 : decode cX0_write 24 = .ok (.iload_n 2, 1) := by decide +kernel
theorem dX0_write_25 : decode cX0_write 25 = .ok (.invokevirtual 156, 3) := by decide +kernel
theorem dX0_write_28 : decode cX0_write 28 = .ok (.return_, 1) := by decide +kernel
set_option maxRecDepth 20000 in
theorem ggX0_countRows_X0_rowOf : GoodIn wsX0_countRows wsX0_rowOf := goodIn_r _ [5, 6, 7, 8, 4, 9, 10, 11, 12, 13, 14, 15, 16, 17, 18, 19, 20, 21, 22, 23, 24, 25, 26, 27, 28] (by decide +kernel) (by decide +kernel)
set_option maxRecDepth 20000 in
theorem gX0_countRows_X0_rowOf : GoodIn wsX0_countRows (wsV RX0 152 RX0 yX0_rowOf wsX0_rowOf) := goodIn_app (goodIn_of _ (by decide +kernel)) ggX0_countRows_X0_rowOf
theorem dX0_countRows_0 : decode cX0_countRows 0 = .ok (.iconst 0, 1) := by decide +kernel
theorem dX0_countRows_1 : decode cX0_countRows 1 = .ok (.istore 4, 2) := by decide +kernel
theorem dX0_countRows_3 : decode cX0_countRows 3 = .ok (.iload_n 2, 1) := by decide +kernel
theorem dX0_countRows_4 : decode cX0_countRows 4 = .ok (.istore 5, 2) := by decide +kernel
theorem dX0_countRows_6 : decode cX0_countRows 6 = .ok (.iload 5, 2) := by decide +kernel
theorem dX0_countRows_8 : decode cX0_countRows 8 = .ok (.iload_n 3, 1) := by decide +kernel
theorem dX0_countRows_9 : decode cX0_countRows 9 = .ok (.if_icmp .gt 30, 3) := by decide +kernel
theorem dX0_countRows_12 : decode cX0_countRows 12 = .ok (.iload 5, 2) := by decide +kernel
theorem dX0_countRows_14 : decode cX0_countRows 14 = .ok (.bipush 100, 2) := by decide +kernel
theorem dX0_countRows_16 : decode cX0_countRows 16 = .ok (.if_icmp .ge 23, 3) := by decide +kernel
theorem dX0_countRows_19 : decode cX0_countRows 19 = .ok (.aload_n 0, 1) := by decide +kernel
theorem dX0_countRows_20 : decode cX0_countRows 20 = .ok (.iload_n 1, 1) := by decide +kernel
theorem dX0_countRows_21 : decode cX0_countRows 21 = .ok (.iload 5, 2) := by decide +kernel
theorem dX0_countRows_23 : decode cX0_countRows 23 = .ok (.invokevirtual 152, 3) := by decide +kernel
theorem dX0_countRows_26 : decode cX0_countRows 26 = .ok (.iconst (-1), 1) := by decide +kernel
theorem dX0_countRows_27 : decode cX0_countRows 27 = .ok (.if_icmp .eq 6, 3) := by decide +kernel
theorem dX0_countRows_30 : decode cX0_countRows 30 = .ok (.iinc 4 1, 3) := by decide +kernel
theorem dX0_countRows_33 : decode cX0_countRows 33 = .ok (.iinc 5 1, 3) := by decide +kernel
theorem dX0_countRows_36 : decode cX0_countRows 36 = .ok (.goto (-30), 3) := by decide +kernel
theorem dX0_countRows_39 : decode cX0_countRows 39 = .ok (.iload 4, 2) := by decide +kernel
theorem dX0_countRows_41 : decode cX0_countRows 41 = .ok (.ireturn, 1) := by decide +kernel
theorem dX0_districtOf_0 : decode cX0_districtOf 0 = .ok (.iload_n 0, 1) := by decide +kernel
theorem dX0_districtOf_1 : decode cX0_districtOf 1 = .ok (.iconst (-1), 1) := by decide +kernel
theorem dX0_districtOf_2 : decode cX0_districtOf 2 = .ok (.if_icmp .ne 7, 3) := by decide +kernel
theorem dX0_districtOf_5 : decode cX0_districtOf 5 = .ok (.iconst (-1), 1) := by decide +kernel
theorem dX0_districtOf_6 : decode cX0_districtOf 6 = .ok (.goto 7, 3) := by decide +kernel
theorem dX0_districtOf_9 : decode cX0_districtOf 9 = .ok (.iload_n 0, 1) := by decide +kernel
theorem dX0_districtOf_10 : decode cX0_districtOf 10 = .ok (.bipush 10, 2) := by decide +kernel
theorem dX0_districtOf_12 : decode cX0_districtOf 12 = .ok (.idiv, 1) := by decide +kernel
theorem dX0_districtOf_13 : decode cX0_districtOf 13 = .ok (.ireturn, 1) := by decide +kernel
set_option maxRecDepth 20000 in
theorem ggX0_rangeHolding_X0_lastKeyOf : GoodIn wsX0_rangeHolding wsX0_lastKeyOf := goodIn_r _ [6, 7, 8, 9, 10, 5, 11, 1, 12, 13, 14, 15, 16, 17, 18, 19, 20, 21, 22, 23, 24, 25, 26, 27] (by decide +kernel) (by decide +kernel)
set_option maxRecDepth 20000 in
theorem gX0_rangeHolding_X0_lastKeyOf : GoodIn wsX0_rangeHolding (wsV RX0 96 RX0 yX0_lastKeyOf wsX0_lastKeyOf) := goodIn_app (goodIn_of _ (by decide +kernel)) ggX0_rangeHolding_X0_lastKeyOf
theorem dX0_rangeHolding_0 : decode cX0_rangeHolding 0 = .ok (.aload_n 0, 1) := by decide +kernel
theorem dX0_rangeHolding_1 : decode cX0_rangeHolding 1 = .ok (.getfield 49, 3) := by decide +kernel
theorem dX0_rangeHolding_4 : decode cX0_rangeHolding 4 = .ok (.iconst 1, 1) := by decide +kernel
theorem dX0_rangeHolding_5 : decode cX0_rangeHolding 5 = .ok (.isub, 1) := by decide +kernel
theorem dX0_rangeHolding_6 : decode cX0_rangeHolding 6 = .ok (.istore_n 2, 1) := by decide +kernel
theorem dX0_rangeHolding_7 : decode cX0_rangeHolding 7 = .ok (.iconst 0, 1) := by decide +kernel
theorem dX0_rangeHolding_8 : decode cX0_rangeHolding 8 = .ok (.istore_n 3, 1) := by decide +kernel
theorem dX0_rangeHolding_9 : decode cX0_rangeHolding 9 = .ok (.iload_n 3, 1) := by decide +kernel
theorem dX0_rangeHolding_10 : decode cX0_rangeHolding 10 = .ok (.iload_n 2, 1) := by decide +kernel
theorem dX0_rangeHolding_11 : decode cX0_rangeHolding 11 = .ok (.if_icmp .ge 20, 3) := by decide +kernel
theorem dX0_rangeHolding_14 : decode cX0_rangeHolding 14 = .ok (.iload_n 1, 1) := by decide +kernel
theorem dX0_rangeHolding_15 : decode cX0_rangeHolding 15 = .ok (.aload_n 0, 1) := by decide +kernel
theorem dX0_rangeHolding_16 : decode cX0_rangeHolding 16 = .ok (.iload_n 3, 1) := by decide +kernel
theorem dX0_rangeHolding_17 : decode cX0_rangeHolding 17 = .ok (.invokevirtual 96, 3) := by decide +kernel
theorem dX0_rangeHolding_20 : decode cX0_rangeHolding 20 = .ok (.if_icmp .gt 5, 3) := by decide +kernel
theorem dX0_rangeHolding_23 : decode cX0_rangeHolding 23 = .ok (.iload_n 3, 1) := by decide +kernel
theorem dX0_rangeHolding_24 : decode cX0_rangeHolding 24 = .ok (.ireturn, 1) := by decide +kernel
theorem dX0_rangeHolding_25 : decode cX0_rangeHolding 25 = .ok (.iinc 3 1, 3) := by decide +kernel
theorem dX0_rangeHolding_28 : decode cX0_rangeHolding 28 = .ok (.goto (-19), 3) := by decide +kernel
theorem dX0_rangeHolding_31 : decode cX0_rangeHolding 31 = .ok (.iload_n 2, 1) := by decide +kernel
theorem dX0_rangeHolding_32 : decode cX0_rangeHolding 32 = .ok (.ireturn, 1) := by decide +kernel
set_option maxRecDepth 20000 in
theorem ggX0_homeOf_X0_isRange : GoodIn wsX0_homeOf wsX0_isRange := goodIn_r _ [6, 7, 8, 9, 10, 11, 12, 13, 14, 15, 16, 17, 18, 19, 20, 21, 22, 23] (by decide +kernel) (by decide +kernel)
set_option maxRecDepth 20000 in
theorem gX0_homeOf_X0_isRange : GoodIn wsX0_homeOf (wsV RX0 117 RX0 yX0_isRange wsX0_isRange) := goodIn_app (goodIn_of _ (by decide +kernel)) ggX0_homeOf_X0_isRange
theorem dX0_homeOf_0 : decode cX0_homeOf 0 = .ok (.aload_n 0, 1) := by decide +kernel
theorem dX0_homeOf_1 : decode cX0_homeOf 1 = .ok (.iload_n 1, 1) := by decide +kernel
theorem dX0_homeOf_2 : decode cX0_homeOf 2 = .ok (.invokevirtual 117, 3) := by decide +kernel
theorem dX0_homeOf_5 : decode cX0_homeOf 5 = .ok (.ifCond .eq 12, 3) := by decide +kernel
theorem dX0_homeOf_8 : decode cX0_homeOf 8 = .ok (.aload_n 0, 1) := by decide +kernel
theorem dX0_homeOf_9 : decode cX0_homeOf 9 = .ok (.getfield 16, 3) := by decide +kernel
theorem dX0_homeOf_12 : decode cX0_homeOf 12 = .ok (.iload_n 1, 1) := by decide +kernel
theorem dX0_homeOf_13 : decode cX0_homeOf 13 = .ok (.iaload, 1) := by decide +kernel
theorem dX0_homeOf_14 : decode cX0_homeOf 14 = .ok (.goto 4, 3) := by decide +kernel
theorem dX0_homeOf_17 : decode cX0_homeOf 17 = .ok (.iconst (-1), 1) := by decide +kernel
theorem dX0_homeOf_18 : decode cX0_homeOf 18 = .ok (.ireturn, 1) := by decide +kernel
set_option maxRecDepth 20000 in
theorem ggX0_targetOf_X0_isRange : GoodIn wsX0_targetOf wsX0_isRange := goodIn_r _ [6, 7, 8, 9, 10, 11, 12, 13, 14, 15, 16, 17, 18, 19, 20, 21, 22, 23] (by decide +kernel) (by decide +kernel)
set_option maxRecDepth 20000 in
theorem gX0_targetOf_X0_isRange : GoodIn wsX0_targetOf (wsV RX0 117 RX0 yX0_isRange wsX0_isRange) := goodIn_app (goodIn_of _ (by decide +kernel)) ggX0_targetOf_X0_isRange
theorem dX0_targetOf_0 : decode cX0_targetOf 0 = .ok (.aload_n 0, 1) := by decide +kernel
theorem dX0_targetOf_1 : decode cX0_targetOf 1 = .ok (.iload_n 1, 1) := by decide +kernel
theorem dX0_targetOf_2 : decode cX0_targetOf 2 = .ok (.invokevirtual 117, 3) := by decide +kernel
theorem dX0_targetOf_5 : decode cX0_targetOf 5 = .ok (.ifCond .eq 12, 3) := by decide +kernel
theorem dX0_targetOf_8 : decode cX0_targetOf 8 = .ok (.aload_n 0, 1) := by decide +kernel
theorem dX0_targetOf_9 : decode cX0_targetOf 9 = .ok (.getfield 19, 3) := by decide +kernel
theorem dX0_targetOf_12 : decode cX0_targetOf 12 = .ok (.iload_n 1, 1) := by decide +kernel
theorem dX0_targetOf_13 : decode cX0_targetOf 13 = .ok (.iaload, 1) := by decide +kernel
theorem dX0_targetOf_14 : decode cX0_targetOf 14 = .ok (.goto 4, 3) := by decide +kernel
theorem dX0_targetOf_17 : decode cX0_targetOf 17 = .ok (.iconst (-1), 1) := by decide +kernel
theorem dX0_targetOf_18 : decode cX0_targetOf 18 = .ok (.ireturn, 1) := by decide +kernel
set_option maxRecDepth 20000 in
theorem ggX0_lastKeyOf_X0_isRange : GoodIn wsX0_lastKeyOf wsX0_isRange := goodIn_r _ [6, 7, 8, 9, 10, 11, 12, 13, 14, 15, 16, 17, 18, 19, 20, 21, 22, 23] (by decide +kernel) (by decide +kernel)
set_option maxRecDepth 20000 in
theorem gX0_lastKeyOf_X0_isRange : GoodIn wsX0_lastKeyOf (wsV RX0 117 RX0 yX0_isRange wsX0_isRange) := goodIn_app (goodIn_of _ (by decide +kernel)) ggX0_lastKeyOf_X0_isRange
theorem dX0_lastKeyOf_0 : decode cX0_lastKeyOf 0 = .ok (.aload_n 0, 1) := by decide +kernel
theorem dX0_lastKeyOf_1 : decode cX0_lastKeyOf 1 = .ok (.iload_n 1, 1) := by decide +kernel
theorem dX0_lastKeyOf_2 : decode cX0_lastKeyOf 2 = .ok (.invokevirtual 117, 3) := by decide +kernel
theorem dX0_lastKeyOf_5 : decode cX0_lastKeyOf 5 = .ok (.ifCond .eq 12, 3) := by decide +kernel
theorem dX0_lastKeyOf_8 : decode cX0_lastKeyOf 8 = .ok (.aload_n 0, 1) := by decide +kernel
theorem dX0_lastKeyOf_9 : decode cX0_lastKeyOf 9 = .ok (.getfield 13, 3) := by decide +kernel
theorem dX0_lastKeyOf_12 : decode cX0_lastKeyOf 12 = .ok (.iload_n 1, 1) := by decide +kernel
theorem dX0_lastKeyOf_13 : decode cX0_lastKeyOf 13 = .ok (.iaload, 1) := by decide +kernel
theorem dX0_lastKeyOf_14 : decode cX0_lastKeyOf 14 = .ok (.goto 4, 3) := by decide +kernel
theorem dX0_lastKeyOf_17 : decode cX0_lastKeyOf 17 = .ok (.iconst (-1), 1) := by decide +kernel
theorem dX0_lastKeyOf_18 : decode cX0_lastKeyOf 18 = .ok (.ireturn, 1) := by decide +kernel
theorem dX0_isKey_0 : decode cX0_isKey 0 = .ok (.iload_n 0, 1) := by decide +kernel
theorem dX0_isKey_1 : decode cX0_isKey 1 = .ok (.ifCond .lt 13, 3) := by decide +kernel
theorem dX0_isKey_4 : decode cX0_isKey 4 = .ok (.iload_n 0, 1) := by decide +kernel
theorem dX0_isKey_5 : decode cX0_isKey 5 = .ok (.bipush 100, 2) := by decide +kernel
theorem dX0_isKey_7 : decode cX0_isKey 7 = .ok (.if_icmp .ge 7, 3) := by decide +kernel
theorem dX0_isKey_10 : decode cX0_isKey 10 = .ok (.iconst 1, 1) := by decide +kernel
theorem dX0_isKey_11 : decode cX0_isKey 11 = .ok (.goto 4, 3) := by decide +kernel
theorem dX0_isKey_14 : decode cX0_isKey 14 = .ok (.iconst 0, 1) := by decide +kernel
theorem dX0_isKey_15 : decode cX0_isKey 15 = .ok (.ireturn, 1) := by decide +kernel
theorem dX0_isShard_0 : decode cX0_isShard 0 = .ok (.iload_n 0, 1) := by decide +kernel
theorem dX0_isShard_1 : decode cX0_isShard 1 = .ok (.ifCond .lt 12, 3) := by decide +kernel
theorem dX0_isShard_4 : decode cX0_isShard 4 = .ok (.iload_n 0, 1) := by decide +kernel
theorem dX0_isShard_5 : decode cX0_isShard 5 = .ok (.iconst 4, 1) := by decide +kernel
theorem dX0_isShard_6 : decode cX0_isShard 6 = .ok (.if_icmp .ge 7, 3) := by decide +kernel
theorem dX0_isShard_9 : decode cX0_isShard 9 = .ok (.iconst 1, 1) := by decide +kernel
theorem dX0_isShard_10 : decode cX0_isShard 10 = .ok (.goto 4, 3) := by decide +kernel
theorem dX0_isShard_13 : decode cX0_isShard 13 = .ok (.iconst 0, 1) := by decide +kernel
theorem dX0_isShard_14 : decode cX0_isShard 14 = .ok (.ireturn, 1) := by decide +kernel
theorem dX0_isRange_0 : decode cX0_isRange 0 = .ok (.iload_n 1, 1) := by decide +kernel
theorem dX0_isRange_1 : decode cX0_isRange 1 = .ok (.ifCond .lt 15, 3) := by decide +kernel
theorem dX0_isRange_4 : decode cX0_isRange 4 = .ok (.iload_n 1, 1) := by decide +kernel
theorem dX0_isRange_5 : decode cX0_isRange 5 = .ok (.aload_n 0, 1) := by decide +kernel
theorem dX0_isRange_6 : decode cX0_isRange 6 = .ok (.getfield 49, 3) := by decide +kernel
theorem dX0_isRange_9 : decode cX0_isRange 9 = .ok (.if_icmp .ge 7, 3) := by decide +kernel
theorem dX0_isRange_12 : decode cX0_isRange 12 = .ok (.iconst 1, 1) := by decide +kernel
theorem dX0_isRange_13 : decode cX0_isRange 13 = .ok (.goto 4, 3) := by decide +kernel
theorem dX0_isRange_16 : decode cX0_isRange 16 = .ok (.iconst 0, 1) := by decide +kernel
theorem dX0_isRange_17 : decode cX0_isRange 17 = .ok (.ireturn, 1) := by decide +kernel
theorem dX0_isBallot_0 : decode cX0_isBallot 0 = .ok (.iload_n 1, 1) := by decide +kernel
theorem dX0_isBallot_1 : decode cX0_isBallot 1 = .ok (.ifCond .lt 15, 3) := by decide +kernel
theorem dX0_isBallot_4 : decode cX0_isBallot 4 = .ok (.iload_n 1, 1) := by decide +kernel
theorem dX0_isBallot_5 : decode cX0_isBallot 5 = .ok (.aload_n 0, 1) := by decide +kernel
theorem dX0_isBallot_6 : decode cX0_isBallot 6 = .ok (.getfield 182, 3) := by decide +kernel
theorem dX0_isBallot_9 : decode cX0_isBallot 9 = .ok (.if_icmp .ge 7, 3) := by decide +kernel
theorem dX0_isBallot_12 : decode cX0_isBallot 12 = .ok (.iconst 1, 1) := by decide +kernel
theorem dX0_isBallot_13 : decode cX0_isBallot 13 = .ok (.goto 4, 3) := by decide +kernel
theorem dX0_isBallot_16 : decode cX0_isBallot 16 = .ok (.iconst 0, 1) := by decide +kernel
theorem dX0_isBallot_17 : decode cX0_isBallot 17 = .ok (.ireturn, 1) := by decide +kernel
set_option maxRecDepth 20000 in
theorem ggX0_isMember_X0_read : GoodIn wsX0_isMember wsX0_read := goodIn_r _ [5, 6, 7, 8, 4, 9, 10, 11, 12, 13, 14, 15, 16, 17, 18, 19, 20, 21, 22, 23, 24, 25, 26, 27, 28, 29, 30, 31, 32, 33, 34, 35, 36, 37, 38, 39, 40, 41, 42, 43, 44, 45, 46, 47, 48, 49, 50, 51] (by decide +kernel) (by decide +kernel)
set_option maxRecDepth 20000 in
theorem gX0_isMember_X0_read : GoodIn wsX0_isMember (wsV RX0 83 RX0 yX0_read wsX0_read) := goodIn_app (goodIn_of _ (by decide +kernel)) ggX0_isMember_X0_read
theorem dX0_isMember_0 : decode cX0_isMember 0 = .ok (.aload_n 0, 1) := by decide +kernel
theorem dX0_isMember_1 : decode cX0_isMember 1 = .ok (.iload_n 1, 1) := by decide +kernel
theorem dX0_isMember_2 : decode cX0_isMember 2 = .ok (.invokevirtual 83, 3) := by decide +kernel
theorem dX0_isMember_5 : decode cX0_isMember 5 = .ok (.iconst (-1), 1) := by decide +kernel
theorem dX0_isMember_6 : decode cX0_isMember 6 = .ok (.if_icmp .eq 7, 3) := by decide +kernel
theorem dX0_isMember_9 : decode cX0_isMember 9 = .ok (.iconst 1, 1) := by decide +kernel
theorem dX0_isMember_10 : decode cX0_isMember 10 = .ok (.goto 4, 3) := by decide +kernel
theorem dX0_isMember_13 : decode cX0_isMember 13 = .ok (.iconst 0, 1) := by decide +kernel
theorem dX0_isMember_14 : decode cX0_isMember 14 = .ok (.ireturn, 1) := by decide +kernel
set_option maxRecDepth 20000 in
theorem ggX0_checkKey_X0_isKey : GoodIn wsX0_checkKey wsX0_isKey := goodIn_r _ [6] (by decide +kernel) (by decide +kernel)
set_option maxRecDepth 20000 in
theorem gX0_checkKey_X0_isKey : GoodIn wsX0_checkKey (va_wsS RX0 205 yX0_isKey wsX0_isKey) := goodIn_app (goodIn_of _ (by decide +kernel)) ggX0_checkKey_X0_isKey
theorem dX0_checkKey_0 : decode cX0_checkKey 0 = .ok (.iload_n 0, 1) := by decide +kernel
theorem dX0_checkKey_1 : decode cX0_checkKey 1 = .ok (.invokestatic 205, 3) := by decide +kernel
theorem dX0_checkKey_4 : decode cX0_checkKey 4 = .ok (.ifCond .ne 13, 3) := by decide +kernel
theorem dX0_checkKey_7 : decode cX0_checkKey 7 = .ok (.new 214, 3) := by decide +kernel
theorem dX0_checkKey_10 : decode cX0_checkKey 10 = .ok (.dup, 1) := by decide +kernel
theorem dX0_checkKey_11 : decode cX0_checkKey 11 = .ok (.ldc 216, 2) := by decide +kernel
theorem dX0_checkKey_13 : decode cX0_checkKey 13 = .ok (.invokespecial 218, 3) := by decide +kernel
theorem dX0_checkKey_16 : decode cX0_checkKey 16 = .ok (.athrow, 1) := by decide +kernel
theorem dX0_checkKey_17 : decode cX0_checkKey 17 = .ok (.return_, 1) := by decide +kernel
set_option maxRecDepth 20000 in
theorem ggX0_checkShard_X0_isShard : GoodIn wsX0_checkShard wsX0_isShard := goodIn_r _ [6] (by decide +kernel) (by decide +kernel)
set_option maxRecDepth 20000 in
theorem gX0_checkShard_X0_isShard : GoodIn wsX0_checkShard (va_wsS RX0 202 yX0_isShard wsX0_isShard) := goodIn_app (goodIn_of _ (by decide +kernel)) ggX0_checkShard_X0_isShard
theorem dX0_checkShard_0 : decode cX0_checkShard 0 = .ok (.iload_n 0, 1) := by decide +kernel
theorem dX0_checkShard_1 : decode cX0_checkShard 1 = .ok (.invokestatic 202, 3) := by decide +kernel
theorem dX0_checkShard_4 : decode cX0_checkShard 4 = .ok (.ifCond .ne 13, 3) := by decide +kernel
theorem dX0_checkShard_7 : decode cX0_checkShard 7 = .ok (.new 214, 3) := by decide +kernel
theorem dX0_checkShard_10 : decode cX0_checkShard 10 = .ok (.dup, 1) := by decide +kernel
theorem dX0_checkShard_11 : decode cX0_checkShard 11 = .ok (.ldc 219, 2) := by decide +kernel
theorem dX0_checkShard_13 : decode cX0_checkShard 13 = .ok (.invokespecial 218, 3) := by decide +kernel
theorem dX0_checkShard_16 : decode cX0_checkShard 16 = .ok (.athrow, 1) := by decide +kernel
theorem dX0_checkShard_17 : decode cX0_checkShard 17 = .ok (.return_, 1) := by decide +kernel
theorem dX0_checkDistrict_0 : decode cX0_checkDistrict 0 = .ok (.iload_n 0, 1) := by decide +kernel
theorem dX0_checkDistrict_1 : decode cX0_checkDistrict 1 = .ok (.ifCond .lt 8, 3) := by decide +kernel
theorem dX0_checkDistrict_4 : decode cX0_checkDistrict 4 = .ok (.iload_n 0, 1) := by decide +kernel
theorem dX0_checkDistrict_5 : decode cX0_checkDistrict 5 = .ok (.iconst 4, 1) := by decide +kernel
theorem dX0_checkDistrict_6 : decode cX0_checkDistrict 6 = .ok (.if_icmp .lt 13, 3) := by decide +kernel
theorem dX0_checkDistrict_9 : decode cX0_checkDistrict 9 = .ok (.new 214, 3) := by decide +kernel
theorem dX0_checkDistrict_12 : decode cX0_checkDistrict 12 = .ok (.dup, 1) := by decide +kernel
theorem dX0_checkDistrict_13 : decode cX0_checkDistrict 13 = .ok (.ldc 221, 2) := by decide +kernel
theorem dX0_checkDistrict_15 : decode cX0_checkDistrict 15 = .ok (.invokespecial 218, 3) := by decide +kernel
theorem dX0_checkDistrict_18 : decode cX0_checkDistrict 18 = .ok (.athrow, 1) := by decide +kernel
theorem dX0_checkDistrict_19 : decode cX0_checkDistrict 19 = .ok (.return_, 1) := by decide +kernel
set_option maxRecDepth 20000 in
theorem ggX0_checkRange_X0_isRange : GoodIn wsX0_checkRange wsX0_isRange := goodIn_r _ [7, 8, 9, 10, 11, 12, 13, 14, 15, 16, 17, 18, 19, 20, 21, 22, 23, 24] (by decide +kernel) (by decide +kernel)
set_option maxRecDepth 20000 in
theorem gX0_checkRange_X0_isRange : GoodIn wsX0_checkRange (wsV RX0 117 RX0 yX0_isRange wsX0_isRange) := goodIn_app (goodIn_of _ (by decide +kernel)) ggX0_checkRange_X0_isRange
theorem dX0_checkRange_0 : decode cX0_checkRange 0 = .ok (.aload_n 0, 1) := by decide +kernel
theorem dX0_checkRange_1 : decode cX0_checkRange 1 = .ok (.iload_n 1, 1) := by decide +kernel
theorem dX0_checkRange_2 : decode cX0_checkRange 2 = .ok (.invokevirtual 117, 3) := by decide +kernel
theorem dX0_checkRange_5 : decode cX0_checkRange 5 = .ok (.ifCond .ne 13, 3) := by decide +kernel
theorem dX0_checkRange_8 : decode cX0_checkRange 8 = .ok (.new 214, 3) := by decide +kernel
theorem dX0_checkRange_11 : decode cX0_checkRange 11 = .ok (.dup, 1) := by decide +kernel
theorem dX0_checkRange_12 : decode cX0_checkRange 12 = .ok (.ldc 223, 2) := by decide +kernel
theorem dX0_checkRange_14 : decode cX0_checkRange 14 = .ok (.invokespecial 218, 3) := by decide +kernel
theorem dX0_checkRange_17 : decode cX0_checkRange 17 = .ok (.athrow, 1) := by decide +kernel
theorem dX0_checkRange_18 : decode cX0_checkRange 18 = .ok (.return_, 1) := by decide +kernel
set_option maxRecDepth 20000 in
theorem ggX0_checkBallot_X0_isBallot : GoodIn wsX0_checkBallot wsX0_isBallot := goodIn_r _ [7, 8, 9, 10, 11, 12, 13, 14, 15, 16, 17, 18, 19, 20, 21, 22, 23, 24] (by decide +kernel) (by decide +kernel)
set_option maxRecDepth 20000 in
theorem gX0_checkBallot_X0_isBallot : GoodIn wsX0_checkBallot (wsV RX0 177 RX0 yX0_isBallot wsX0_isBallot) := goodIn_app (goodIn_of _ (by decide +kernel)) ggX0_checkBallot_X0_isBallot
theorem dX0_checkBallot_0 : decode cX0_checkBallot 0 = .ok (.aload_n 0, 1) := by decide +kernel
theorem dX0_checkBallot_1 : decode cX0_checkBallot 1 = .ok (.iload_n 1, 1) := by decide +kernel
theorem dX0_checkBallot_2 : decode cX0_checkBallot 2 = .ok (.invokevirtual 177, 3) := by decide +kernel
theorem dX0_checkBallot_5 : decode cX0_checkBallot 5 = .ok (.ifCond .ne 13, 3) := by decide +kernel
theorem dX0_checkBallot_8 : decode cX0_checkBallot 8 = .ok (.new 214, 3) := by decide +kernel
theorem dX0_checkBallot_11 : decode cX0_checkBallot 11 = .ok (.dup, 1) := by decide +kernel
theorem dX0_checkBallot_12 : decode cX0_checkBallot 12 = .ok (.ldc 225, 2) := by decide +kernel
theorem dX0_checkBallot_14 : decode cX0_checkBallot 14 = .ok (.invokespecial 218, 3) := by decide +kernel
theorem dX0_checkBallot_17 : decode cX0_checkBallot 17 = .ok (.athrow, 1) := by decide +kernel
theorem dX0_checkBallot_18 : decode cX0_checkBallot 18 = .ok (.return_, 1) := by decide +kernel
theorem dX0_checkAddress_0 : decode cX0_checkAddress 0 = .ok (.iload_n 0, 1) := by decide +kernel
theorem dX0_checkAddress_1 : decode cX0_checkAddress 1 = .ok (.ifCond .lt 9, 3) := by decide +kernel
theorem dX0_checkAddress_4 : decode cX0_checkAddress 4 = .ok (.iload_n 0, 1) := by decide +kernel
theorem dX0_checkAddress_5 : decode cX0_checkAddress 5 = .ok (.bipush 40, 2) := by decide +kernel
theorem dX0_checkAddress_7 : decode cX0_checkAddress 7 = .ok (.if_icmp .lt 13, 3) := by decide +kernel
theorem dX0_checkAddress_10 : decode cX0_checkAddress 10 = .ok (.new 227, 3) := by decide +kernel
theorem dX0_checkAddress_13 : decode cX0_checkAddress 13 = .ok (.dup, 1) := by decide +kernel
theorem dX0_checkAddress_14 : decode cX0_checkAddress 14 = .ok (.ldc 229, 2) := by decide +kernel
theorem dX0_checkAddress_16 : decode cX0_checkAddress 16 = .ok (.invokespecial 231, 3) := by decide +kernel
theorem dX0_checkAddress_19 : decode cX0_checkAddress 19 = .ok (.athrow, 1) := by decide +kernel
theorem dX0_checkAddress_20 : decode cX0_checkAddress 20 = .ok (.return_, 1) := by decide +kernel
theorem dX0_checkChoice_0 : decode cX0_checkChoice 0 = .ok (.iload_n 0, 1) := by decide +kernel
theorem dX0_checkChoice_1 : decode cX0_checkChoice 1 = .ok (.ifCond .lt 8, 3) := by decide +kernel
theorem dX0_checkChoice_4 : decode cX0_checkChoice 4 = .ok (.iload_n 0, 1) := by decide +kernel
theorem dX0_checkChoice_5 : decode cX0_checkChoice 5 = .ok (.iconst 3, 1) := by decide +kernel
theorem dX0_checkChoice_6 : decode cX0_checkChoice 6 = .ok (.if_icmp .lt 13, 3) := by decide +kernel
theorem dX0_checkChoice_9 : decode cX0_checkChoice 9 = .ok (.new 227, 3) := by decide +kernel
theorem dX0_checkChoice_12 : decode cX0_checkChoice 12 = .ok (.dup, 1) := by decide +kernel
theorem dX0_checkChoice_13 : decode cX0_checkChoice 13 = .ok (.ldc 232, 2) := by decide +kernel
theorem dX0_checkChoice_15 : decode cX0_checkChoice 15 = .ok (.invokespecial 231, 3) := by decide +kernel
theorem dX0_checkChoice_18 : decode cX0_checkChoice 18 = .ok (.athrow, 1) := by decide +kernel
theorem dX0_checkChoice_19 : decode cX0_checkChoice 19 = .ok (.return_, 1) := by decide +kernel
theorem dJ7_fill_53178_0 : decode cJ7_fill_53178 0 = .ok (.iconst 0, 1) := by decide +kernel
theorem dJ7_fill_53178_1 : decode cJ7_fill_53178 1 = .ok (.istore_n 2, 1) := by decide +kernel
theorem dJ7_fill_53178_2 : decode cJ7_fill_53178 2 = .ok (.aload_n 0, 1) := by decide +kernel
theorem dJ7_fill_53178_3 : decode cJ7_fill_53178 3 = .ok (.arraylength, 1) := by decide +kernel
theorem dJ7_fill_53178_4 : decode cJ7_fill_53178 4 = .ok (.istore_n 3, 1) := by decide +kernel
theorem dJ7_fill_53178_5 : decode cJ7_fill_53178 5 = .ok (.iload_n 2, 1) := by decide +kernel
theorem dJ7_fill_53178_6 : decode cJ7_fill_53178 6 = .ok (.iload_n 3, 1) := by decide +kernel
theorem dJ7_fill_53178_7 : decode cJ7_fill_53178 7 = .ok (.if_icmp .ge 13, 3) := by decide +kernel
theorem dJ7_fill_53178_10 : decode cJ7_fill_53178 10 = .ok (.aload_n 0, 1) := by decide +kernel
theorem dJ7_fill_53178_11 : decode cJ7_fill_53178 11 = .ok (.iload_n 2, 1) := by decide +kernel
theorem dJ7_fill_53178_12 : decode cJ7_fill_53178 12 = .ok (.iload_n 1, 1) := by decide +kernel
theorem dJ7_fill_53178_13 : decode cJ7_fill_53178 13 = .ok (.iastore, 1) := by decide +kernel
theorem dJ7_fill_53178_14 : decode cJ7_fill_53178 14 = .ok (.iinc 2 1, 3) := by decide +kernel
theorem dJ7_fill_53178_17 : decode cJ7_fill_53178 17 = .ok (.goto (-12), 3) := by decide +kernel
theorem dJ7_fill_53178_20 : decode cJ7_fill_53178 20 = .ok (.return_, 1) := by decide +kernel
