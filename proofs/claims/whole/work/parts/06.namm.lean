theorem dX1_init_0 : decode cX1_init 0 = .ok (.aload_n 0, 1) := by decide +kernel
theorem dX1_init_1 : decode cX1_init 1 = .ok (.invokespecial 1, 3) := by decide +kernel
theorem dX1_init_4 : decode cX1_init 4 = .ok (.aload_n 0, 1) := by decide +kernel
theorem dX1_init_5 : decode cX1_init 5 = .ok (.bipush 100, 2) := by decide +kernel
theorem dX1_init_7 : decode cX1_init 7 = .ok (.newarray .int, 2) := by decide +kernel
theorem dX1_init_9 : decode cX1_init 9 = .ok (.putfield 7, 3) := by decide +kernel
theorem dX1_init_12 : decode cX1_init 12 = .ok (.aload_n 0, 1) := by decide +kernel
theorem dX1_init_13 : decode cX1_init 13 = .ok (.iconst 1, 1) := by decide +kernel
theorem dX1_init_14 : decode cX1_init 14 = .ok (.putfield 13, 3) := by decide +kernel
theorem dX1_init_17 : decode cX1_init 17 = .ok (.aload_n 0, 1) := by decide +kernel
theorem dX1_init_18 : decode cX1_init 18 = .ok (.bipush 9, 2) := by decide +kernel
theorem dX1_init_20 : decode cX1_init 20 = .ok (.newarray .int, 2) := by decide +kernel
theorem dX1_init_22 : decode cX1_init 22 = .ok (.putfield 17, 3) := by decide +kernel
theorem dX1_init_25 : decode cX1_init 25 = .ok (.aload_n 0, 1) := by decide +kernel
theorem dX1_init_26 : decode cX1_init 26 = .ok (.bipush 9, 2) := by decide +kernel
theorem dX1_init_28 : decode cX1_init 28 = .ok (.newarray .int, 2) := by decide +kernel
theorem dX1_init_30 : decode cX1_init 30 = .ok (.putfield 20, 3) := by decide +kernel
theorem dX1_init_33 : decode cX1_init 33 = .ok (.aload_n 0, 1) := by decide +kernel
theorem dX1_init_34 : decode cX1_init 34 = .ok (.bipush 9, 2) := by decide +kernel
theorem dX1_init_36 : decode cX1_init 36 = .ok (.newarray .int, 2) := by decide +kernel
theorem dX1_init_38 : decode cX1_init 38 = .ok (.dup, 1) := by decide +kernel
theorem dX1_init_39 : decode cX1_init 39 = .ok (.iconst 0, 1) := by decide +kernel
theorem dX1_init_40 : decode cX1_init 40 = .ok (.iconst (-1), 1) := by decide +kernel
theorem dX1_init_41 : decode cX1_init 41 = .ok (.iastore, 1) := by decide +kernel
theorem dX1_init_42 : decode cX1_init 42 = .ok (.dup, 1) := by decide +kernel
theorem dX1_init_43 : decode cX1_init 43 = .ok (.iconst 1, 1) := by decide +kernel
theorem dX1_init_44 : decode cX1_init 44 = .ok (.iconst (-1), 1) := by decide +kernel
theorem dX1_init_45 : decode cX1_init 45 = .ok (.iastore, 1) := by decide +kernel
theorem dX1_init_46 : decode cX1_init 46 = .ok (.dup, 1) := by decide +kernel
theorem dX1_init_47 : decode cX1_init 47 = .ok (.iconst 2, 1) := by decide +kernel
theorem dX1_init_48 : decode cX1_init 48 = .ok (.iconst (-1), 1) := by decide +kernel
theorem dX1_init_49 : decode cX1_init 49 = .ok (.iastore, 1) := by decide +kernel
theorem dX1_init_50 : decode cX1_init 50 = .ok (.dup, 1) := by decide +kernel
theorem dX1_init_51 : decode cX1_init 51 = .ok (.iconst 3, 1) := by decide +kernel
theorem dX1_init_52 : decode cX1_init 52 = .ok (.iconst (-1), 1) := by decide +kernel
theorem dX1_init_53 : decode cX1_init 53 = .ok (.iastore, 1) := by decide +kernel
theorem dX1_init_54 : decode cX1_init 54 = .ok (.dup, 1) := by decide +kernel
theorem dX1_init_55 : decode cX1_init 55 = .ok (.iconst 4, 1) := by decide +kernel
theorem dX1_init_56 : decode cX1_init 56 = .ok (.iconst (-1), 1) := by decide +kernel
theorem dX1_init_57 : decode cX1_init 57 = .ok (.iastore, 1) := by decide +kernel
theorem dX1_init_58 : decode cX1_init 58 = .ok (.dup, 1) := by decide +kernel
theorem dX1_init_59 : decode cX1_init 59 = .ok (.iconst 5, 1) := by decide +kernel
theorem dX1_init_60 : decode cX1_init 60 = .ok (.iconst (-1), 1) := by decide +kernel
theorem dX1_init_61 : decode cX1_init 61 = .ok (.iastore, 1) := by decide +kernel
theorem dX1_init_62 : decode cX1_init 62 = .ok (.dup, 1) := by decide +kernel
theorem dX1_init_63 : decode cX1_init 63 = .ok (.bipush 6, 2) := by decide +kernel
theorem dX1_init_65 : decode cX1_init 65 = .ok (.iconst (-1), 1) := by decide +kernel
theorem dX1_init_66 : decode cX1_init 66 = .ok (.iastore, 1) := by decide +kernel
theorem dX1_init_67 : decode cX1_init 67 = .ok (.dup, 1) := by decide +kernel
theorem dX1_init_68 : decode cX1_init 68 = .ok (.bipush 7, 2) := by decide +kernel
theorem dX1_init_70 : decode cX1_init 70 = .ok (.iconst (-1), 1) := by decide +kernel
theorem dX1_init_71 : decode cX1_init 71 = .ok (.iastore, 1) := by decide +kernel
theorem dX1_init_72 : decode cX1_init 72 = .ok (.dup, 1) := by decide +kernel
theorem dX1_init_73 : decode cX1_init 73 = .ok (.bipush 8, 2) := by decide +kernel
theorem dX1_init_75 : decode cX1_init 75 = .ok (.iconst (-1), 1) := by decide +kernel
theorem dX1_init_76 : decode cX1_init 76 = .ok (.iastore, 1) := by decide +kernel
theorem dX1_init_77 : decode cX1_init 77 = .ok (.putfield 23, 3) := by decide +kernel
theorem dX1_init_80 : decode cX1_init 80 = .ok (.aload_n 0, 1) := by decide +kernel
theorem dX1_init_81 : decode cX1_init 81 = .ok (.bipush 100, 2) := by decide +kernel
theorem dX1_init_83 : decode cX1_init 83 = .ok (.newarray .boolean, 2) := by decide +kernel
theorem dX1_init_85 : decode cX1_init 85 = .ok (.putfield 26, 3) := by decide +kernel
theorem dX1_init_88 : decode cX1_init 88 = .ok (.aload_n 0, 1) := by decide +kernel
theorem dX1_init_89 : decode cX1_init 89 = .ok (.bipush 100, 2) := by decide +kernel
theorem dX1_init_91 : decode cX1_init 91 = .ok (.newarray .int, 2) := by decide +kernel
theorem dX1_init_93 : decode cX1_init 93 = .ok (.putfield 30, 3) := by decide +kernel
theorem dX1_init_96 : decode cX1_init 96 = .ok (.aload_n 0, 1) := by decide +kernel
theorem dX1_init_97 : decode cX1_init 97 = .ok (.bipush 100, 2) := by decide +kernel
theorem dX1_init_99 : decode cX1_init 99 = .ok (.newarray .int, 2) := by decide +kernel
theorem dX1_init_101 : decode cX1_init 101 = .ok (.putfield 33, 3) := by decide +kernel
theorem dX1_init_104 : decode cX1_init 104 = .ok (.aload_n 0, 1) := by decide +kernel
theorem dX1_init_105 : decode cX1_init 105 = .ok (.bipush 60, 2) := by decide +kernel
theorem dX1_init_107 : decode cX1_init 107 = .ok (.newarray .int, 2) := by decide +kernel
theorem dX1_init_109 : decode cX1_init 109 = .ok (.putfield 36, 3) := by decide +kernel
theorem dX1_init_112 : decode cX1_init 112 = .ok (.aload_n 0, 1) := by decide +kernel
theorem dX1_init_113 : decode cX1_init 113 = .ok (.bipush 60, 2) := by decide +kernel
theorem dX1_init_115 : decode cX1_init 115 = .ok (.newarray .int, 2) := by decide +kernel
theorem dX1_init_117 : decode cX1_init 117 = .ok (.putfield 39, 3) := by decide +kernel
theorem dX1_init_120 : decode cX1_init 120 = .ok (.aload_n 0, 1) := by decide +kernel
theorem dX1_init_121 : decode cX1_init 121 = .ok (.bipush 60, 2) := by decide +kernel
theorem dX1_init_123 : decode cX1_init 123 = .ok (.newarray .int, 2) := by decide +kernel
theorem dX1_init_125 : decode cX1_init 125 = .ok (.putfield 42, 3) := by decide +kernel
theorem dX1_init_128 : decode cX1_init 128 = .ok (.aload_n 0, 1) := by decide +kernel
theorem dX1_init_129 : decode cX1_init 129 = .ok (.bipush 60, 2) := by decide +kernel
theorem dX1_init_131 : decode cX1_init 131 = .ok (.newarray .int, 2) := by decide +kernel
theorem dX1_init_133 : decode cX1_init 133 = .ok (.putfield 45, 3) := by decide +kernel
theorem dX1_init_136 : decode cX1_init 136 = .ok (.aload_n 0, 1) := by decide +kernel
theorem dX1_init_137 : decode cX1_init 137 = .ok (.bipush 12, 2) := by decide +kernel
theorem dX1_init_139 : decode cX1_init 139 = .ok (.newarray .int, 2) := by decide +kernel
theorem dX1_init_141 : decode cX1_init 141 = .ok (.putfield 48, 3) := by decide +kernel
theorem dX1_init_144 : decode cX1_init 144 = .ok (.return_, 1) := by decide +kernel
theorem dX1_thrown_0 : decode cX1_thrown 0 = .ok (.aload_n 0, 1) := by decide +kernel
theorem dX1_thrown_1 : decode cX1_thrown 1 = .ok (.getfield 51, 3) := by decide +kernel
theorem dX1_thrown_4 : decode cX1_thrown 4 = .ok (.ireturn, 1) := by decide +kernel
theorem dX1_in_0 : decode cX1_in 0 = .ok (.iload_n 0, 1) := by decide +kernel
theorem dX1_in_1 : decode cX1_in 1 = .ok (.iload_n 1, 1) := by decide +kernel
theorem dX1_in_2 : decode cX1_in 2 = .ok (.if_icmp .lt 12, 3) := by decide +kernel
theorem dX1_in_5 : decode cX1_in 5 = .ok (.iload_n 0, 1) := by decide +kernel
theorem dX1_in_6 : decode cX1_in 6 = .ok (.iload_n 2, 1) := by decide +kernel
theorem dX1_in_7 : decode cX1_in 7 = .ok (.if_icmp .gt 7, 3) := by decide +kernel
theorem dX1_in_10 : decode cX1_in 10 = .ok (.iconst 1, 1) := by decide +kernel
theorem dX1_in_11 : decode cX1_in 11 = .ok (.goto 4, 3) := by decide +kernel
theorem dX1_in_14 : decode cX1_in 14 = .ok (.iconst 0, 1) := by decide +kernel
theorem dX1_in_15 : decode cX1_in 15 = .ok (.ireturn, 1) := by decide +kernel
set_option maxRecDepth 20000 in
theorem ggX1_isKey_X1_in : GoodIn wsX1_isKey wsX1_in := goodIn_r _ [4] (by decide +kernel) (by decide +kernel)
set_option maxRecDepth 20000 in
theorem gX1_isKey_X1_in : GoodIn wsX1_isKey (va_wsS RX1 54 yX1_in wsX1_in) := goodIn_app (goodIn_of _ (by decide +kernel)) ggX1_isKey_X1_in
theorem dX1_isKey_0 : decode cX1_isKey 0 = .ok (.iload_n 0, 1) := by decide +kernel
theorem dX1_isKey_1 : decode cX1_isKey 1 = .ok (.iconst 0, 1) := by decide +kernel
theorem dX1_isKey_2 : decode cX1_isKey 2 = .ok (.bipush 99, 2) := by decide +kernel
theorem dX1_isKey_4 : decode cX1_isKey 4 = .ok (.invokestatic 54, 3) := by decide +kernel
theorem dX1_isKey_7 : decode cX1_isKey 7 = .ok (.ireturn, 1) := by decide +kernel
set_option maxRecDepth 20000 in
theorem ggX1_isRange_X1_in : GoodIn wsX1_isRange wsX1_in := goodIn_r _ [5] (by decide +kernel) (by decide +kernel)
set_option maxRecDepth 20000 in
theorem gX1_isRange_X1_in : GoodIn wsX1_isRange (va_wsS RX1 54 yX1_in wsX1_in) := goodIn_app (goodIn_of _ (by decide +kernel)) ggX1_isRange_X1_in
theorem dX1_isRange_0 : decode cX1_isRange 0 = .ok (.iload_n 1, 1) := by decide +kernel
theorem dX1_isRange_1 : decode cX1_isRange 1 = .ok (.iconst 0, 1) := by decide +kernel
theorem dX1_isRange_2 : decode cX1_isRange 2 = .ok (.aload_n 0, 1) := by decide +kernel
theorem dX1_isRange_3 : decode cX1_isRange 3 = .ok (.getfield 13, 3) := by decide +kernel
theorem dX1_isRange_6 : decode cX1_isRange 6 = .ok (.iconst 1, 1) := by decide +kernel
theorem dX1_isRange_7 : decode cX1_isRange 7 = .ok (.isub, 1) := by decide +kernel
theorem dX1_isRange_8 : decode cX1_isRange 8 = .ok (.invokestatic 54, 3) := by decide +kernel
theorem dX1_isRange_11 : decode cX1_isRange 11 = .ok (.ireturn, 1) := by decide +kernel
set_option maxRecDepth 20000 in
theorem ggX1_isShard_X1_in : GoodIn wsX1_isShard wsX1_in := goodIn_r _ [4] (by decide +kernel) (by decide +kernel)
set_option maxRecDepth 20000 in
theorem gX1_isShard_X1_in : GoodIn wsX1_isShard (va_wsS RX1 54 yX1_in wsX1_in) := goodIn_app (goodIn_of _ (by decide +kernel)) ggX1_isShard_X1_in
theorem dX1_isShard_0 : decode cX1_isShard 0 = .ok (.iload_n 0, 1) := by decide +kernel
theorem dX1_isShard_1 : decode cX1_isShard 1 = .ok (.iconst 0, 1) := by decide +kernel
theorem dX1_isShard_2 : decode cX1_isShard 2 = .ok (.iconst 3, 1) := by decide +kernel
theorem dX1_isShard_3 : decode cX1_isShard 3 = .ok (.invokestatic 54, 3) := by decide +kernel
theorem dX1_isShard_6 : decode cX1_isShard 6 = .ok (.ireturn, 1) := by decide +kernel
theorem dX1_isThere_0 : decode cX1_isThere 0 = .ok (.aload_n 0, 1) := by decide +kernel
theorem dX1_isThere_1 : decode cX1_isThere 1 = .ok (.getfield 7, 3) := by decide +kernel
theorem dX1_isThere_4 : decode cX1_isThere 4 = .ok (.iload_n 1, 1) := by decide +kernel
theorem dX1_isThere_5 : decode cX1_isThere 5 = .ok (.iaload, 1) := by decide +kernel
theorem dX1_isThere_6 : decode cX1_isThere 6 = .ok (.ifCond .le 7, 3) := by decide +kernel
theorem dX1_isThere_9 : decode cX1_isThere 9 = .ok (.iconst 1, 1) := by decide +kernel
theorem dX1_isThere_10 : decode cX1_isThere 10 = .ok (.goto 4, 3) := by decide +kernel
theorem dX1_isThere_13 : decode cX1_isThere 13 = .ok (.iconst 0, 1) := by decide +kernel
theorem dX1_isThere_14 : decode cX1_isThere 14 = .ok (.ireturn, 1) := by decide +kernel
set_option maxRecDepth 20000 in
theorem ggX1_join_X1_isKey : GoodIn wsX1_join wsX1_isKey := goodIn_r _ [8, 9, 10, 7, 11] (by decide +kernel) (by decide +kernel)
set_option maxRecDepth 20000 in
theorem gX1_join_X1_isKey : GoodIn wsX1_join (va_wsS RX1 58 yX1_isKey wsX1_isKey) := goodIn_app (goodIn_of _ (by decide +kernel)) ggX1_join_X1_isKey
set_option maxRecDepth 20000 in
theorem ggX1_join_X1_in : GoodIn wsX1_join wsX1_in := goodIn_r _ [11] (by decide +kernel) (by decide +kernel)
set_option maxRecDepth 20000 in
theorem gX1_join_X1_in : GoodIn wsX1_join (va_wsS RX1 54 yX1_in wsX1_in) := goodIn_app (goodIn_of _ (by decide +kernel)) ggX1_join_X1_in
set_option maxRecDepth 20000 in
theorem ggX1_join_X1_isThere : GoodIn wsX1_join wsX1_isThere := goodIn_r _ [15, 3, 16, 17, 18, 19, 20, 21, 22, 23, 24, 25, 26, 27, 28, 29, 30, 31, 32, 33] (by decide +kernel) (by decide +kernel)
set_option maxRecDepth 20000 in
theorem gX1_join_X1_isThere : GoodIn wsX1_join (wsV RX1 62 RX1 yX1_isThere wsX1_isThere) := goodIn_app (goodIn_of _ (by decide +kernel)) ggX1_join_X1_isThere
theorem dX1_join_0 : decode cX1_join 0 = .ok (.aload_n 0, 1) := by decide +kernel
theorem dX1_join_1 : decode cX1_join 1 = .ok (.iload_n 1, 1) := by decide +kernel
theorem dX1_join_2 : decode cX1_join 2 = .ok (.invokestatic 58, 3) := by decide +kernel
theorem dX1_join_5 : decode cX1_join 5 = .ok (.ifCond .ne 7, 3) := by decide +kernel
theorem dX1_join_8 : decode cX1_join 8 = .ok (.iconst 1, 1) := by decide +kernel
theorem dX1_join_9 : decode cX1_join 9 = .ok (.goto 39, 3) := by decide +kernel
theorem dX1_join_12 : decode cX1_join 12 = .ok (.iload_n 2, 1) := by decide +kernel
theorem dX1_join_13 : decode cX1_join 13 = .ok (.iconst 0, 1) := by decide +kernel
theorem dX1_join_14 : decode cX1_join 14 = .ok (.bipush 39, 2) := by decide +kernel
theorem dX1_join_16 : decode cX1_join 16 = .ok (.invokestatic 54, 3) := by decide +kernel
theorem dX1_join_19 : decode cX1_join 19 = .ok (.ifCond .ne 7, 3) := by decide +kernel
theorem dX1_join_22 : decode cX1_join 22 = .ok (.iconst 2, 1) := by decide +kernel
theorem dX1_join_23 : decode cX1_join 23 = .ok (.goto 25, 3) := by decide +kernel
theorem dX1_join_26 : decode cX1_join 26 = .ok (.aload_n 0, 1) := by decide +kernel
theorem dX1_join_27 : decode cX1_join 27 = .ok (.iload_n 1, 1) := by decide +kernel
theorem dX1_join_28 : decode cX1_join 28 = .ok (.invokevirtual 62, 3) := by decide +kernel
theorem dX1_join_31 : decode cX1_join 31 = .ok (.ifCond .ne 12, 3) := by decide +kernel
theorem dX1_join_34 : decode cX1_join 34 = .ok (.aload_n 0, 1) := by decide +kernel
theorem dX1_join_35 : decode cX1_join 35 = .ok (.getfield 65, 3) := by decide +kernel
theorem dX1_join_38 : decode cX1_join 38 = .ok (.bipush 40, 2) := by decide +kernel
theorem dX1_join_40 : decode cX1_join 40 = .ok (.if_icmp .ne 7, 3) := by decide +kernel
theorem dX1_join_43 : decode cX1_join 43 = .ok (.iconst 3, 1) := by decide +kernel
theorem dX1_join_44 : decode cX1_join 44 = .ok (.goto 4, 3) := by decide +kernel
theorem dX1_join_47 : decode cX1_join 47 = .ok (.iconst 0, 1) := by decide +kernel
theorem dX1_join_48 : decode cX1_join 48 = .ok (.putfield 51, 3) := by decide +kernel
theorem dX1_join_51 : decode cX1_join 51 = .ok (.aload_n 0, 1) := by decide +kernel
theorem dX1_join_52 : decode cX1_join 52 = .ok (.getfield 51, 3) := by decide +kernel
theorem dX1_join_55 : decode cX1_join 55 = .ok (.ifCond .le 5, 3) := by decide +kernel
theorem dX1_join_58 : decode cX1_join 58 = .ok (.iconst 0, 1) := by decide +kernel
theorem dX1_join_59 : decode cX1_join 59 = .ok (.ireturn, 1) := by decide +kernel
theorem dX1_join_60 : decode cX1_join 60 = .ok (.aload_n 0, 1) := by decide +kernel
theorem dX1_join_61 : decode cX1_join 61 = .ok (.getfield 7, 3) := by decide +kernel
theorem dX1_join_64 : decode cX1_join 64 = .ok (.iload_n 1, 1) := by decide +kernel
theorem dX1_join_65 : decode cX1_join 65 = .ok (.iload_n 2, 1) := by decide +kernel
theorem dX1_join_66 : decode cX1_join 66 = .ok (.iconst 1, 1) := by decide +kernel
theorem dX1_join_67 : decode cX1_join 67 = .ok (.iadd, 1) := by decide +kernel
theorem dX1_join_68 : decode cX1_join 68 = .ok (.iastore, 1) := by decide +kernel
theorem dX1_join_69 : decode cX1_join 69 = .ok (.aload_n 0, 1) := by decide +kernel
theorem dX1_join_70 : decode cX1_join 70 = .ok (.getfield 26, 3) := by decide +kernel
theorem dX1_join_73 : decode cX1_join 73 = .ok (.iload_n 1, 1) := by decide +kernel
theorem dX1_join_74 : decode cX1_join 74 = .ok (.iconst 1, 1) := by decide +kernel
theorem dX1_join_75 : decode cX1_join 75 = .ok (.bastore, 1) := by decide +kernel
theorem dX1_join_76 : decode cX1_join 76 = .ok (.aload_n 0, 1) := by decide +kernel
theorem dX1_join_77 : decode cX1_join 77 = .ok (.dup, 1) := by decide +kernel
theorem dX1_join_78 : decode cX1_join 78 = .ok (.getfield 65, 3) := by decide +kernel
theorem dX1_join_81 : decode cX1_join 81 = .ok (.iconst 1, 1) := by decide +kernel
theorem dX1_join_82 : decode cX1_join 82 = .ok (.iadd, 1) := by decide +kernel
theorem dX1_join_83 : decode cX1_join 83 = .ok (.putfield 65, 3) := by decide +kernel
theorem dX1_join_86 : decode cX1_join 86 = .ok (.aload_n 0, 1) := by decide +kernel
theorem dX1_join_87 : decode cX1_join 87 = .ok (.getfield 65, 3) := by decide +kernel
theorem dX1_join_90 : decode cX1_join 90 = .ok (.ireturn, 1) := by decide +kernel
set_option maxRecDepth 20000 in
theorem ggX1_change_X1_isKey : GoodIn wsX1_change wsX1_isKey := goodIn_r _ [7, 8, 9, 6, 10] (by decide +kernel) (by decide +kernel)
set_option maxRecDepth 20000 in
theorem gX1_change_X1_isKey : GoodIn wsX1_change (va_wsS RX1 58 yX1_isKey wsX1_isKey) := goodIn_app (goodIn_of _ (by decide +kernel)) ggX1_change_X1_isKey
set_option maxRecDepth 20000 in
theorem ggX1_change_X1_in : GoodIn wsX1_change wsX1_in := goodIn_r _ [10] (by decide +kernel) (by decide +kernel)
set_option maxRecDepth 20000 in
theorem gX1_change_X1_in : GoodIn wsX1_change (va_wsS RX1 54 yX1_in wsX1_in) := goodIn_app (goodIn_of _ (by decide +kernel)) ggX1_change_X1_in
set_option maxRecDepth 20000 in
theorem ggX1_change_X1_isThere : GoodIn wsX1_change wsX1_isThere := goodIn_r _ [14, 2, 15, 16, 17, 18, 19, 20, 21, 22, 23, 24, 25, 26, 27, 28, 29, 30, 31, 32] (by decide +kernel) (by decide +kernel)
set_option maxRecDepth 20000 in
theorem gX1_change_X1_isThere : GoodIn wsX1_change (wsV RX1 62 RX1 yX1_isThere wsX1_isThere) := goodIn_app (goodIn_of _ (by decide +kernel)) ggX1_change_X1_isThere
theorem dX1_change_0 : decode cX1_change 0 = .ok (.aload_n 0, 1) := by decide +kernel
theorem dX1_change_1 : decode cX1_change 1 = .ok (.iload_n 1, 1) := by decide +kernel
theorem dX1_change_2 : decode cX1_change 2 = .ok (.invokestatic 58, 3) := by decide +kernel
theorem dX1_change_5 : decode cX1_change 5 = .ok (.ifCond .ne 7, 3) := by decide +kernel
theorem dX1_change_8 : decode cX1_change 8 = .ok (.iconst 1, 1) := by decide +kernel
theorem dX1_change_9 : decode cX1_change 9 = .ok (.goto 30, 3) := by decide +kernel
theorem dX1_change_12 : decode cX1_change 12 = .ok (.iload_n 2, 1) := by decide +kernel
theorem dX1_change_13 : decode cX1_change 13 = .ok (.iconst 0, 1) := by decide +kernel
theorem dX1_change_14 : decode cX1_change 14 = .ok (.bipush 39, 2) := by decide +kernel
theorem dX1_change_16 : decode cX1_change 16 = .ok (.invokestatic 54, 3) := by decide +kernel
theorem dX1_change_19 : decode cX1_change 19 = .ok (.ifCond .ne 7, 3) := by decide +kernel
theorem dX1_change_22 : decode cX1_change 22 = .ok (.iconst 2, 1) := by decide +kernel
theorem dX1_change_23 : decode cX1_change 23 = .ok (.goto 16, 3) := by decide +kernel
theorem dX1_change_26 : decode cX1_change 26 = .ok (.aload_n 0, 1) := by decide +kernel
theorem dX1_change_27 : decode cX1_change 27 = .ok (.iload_n 1, 1) := by decide +kernel
theorem dX1_change_28 : decode cX1_change 28 = .ok (.invokevirtual 62, 3) := by decide +kernel
theorem dX1_change_31 : decode cX1_change 31 = .ok (.ifCond .eq 7, 3) := by decide +kernel
theorem dX1_change_34 : decode cX1_change 34 = .ok (.iconst 0, 1) := by decide +kernel
theorem dX1_change_35 : decode cX1_change 35 = .ok (.goto 4, 3) := by decide +kernel
theorem dX1_change_38 : decode cX1_change 38 = .ok (.iconst 3, 1) := by decide +kernel
theorem dX1_change_39 : decode cX1_change 39 = .ok (.putfield 51, 3) := by decide +kernel
theorem dX1_change_42 : decode cX1_change 42 = .ok (.aload_n 0, 1) := by decide +kernel
theorem dX1_change_43 : decode cX1_change 43 = .ok (.getfield 51, 3) := by decide +kernel
theorem dX1_change_46 : decode cX1_change 46 = .ok (.ifCond .le 5, 3) := by decide +kernel
theorem dX1_change_49 : decode cX1_change 49 = .ok (.iconst 0, 1) := by decide +kernel
theorem dX1_change_50 : decode cX1_change 50 = .ok (.ireturn, 1) := by decide +kernel
theorem dX1_change_51 : decode cX1_change 51 = .ok (.aload_n 0, 1) := by decide +kernel
theorem dX1_change_52 : decode cX1_change 52 = .ok (.getfield 7, 3) := by decide +kernel
theorem dX1_change_55 : decode cX1_change 55 = .ok (.iload_n 1, 1) := by decide +kernel
theorem dX1_change_56 : decode cX1_change 56 = .ok (.iaload, 1) := by decide +kernel
theorem dX1_change_57 : decode cX1_change 57 = .ok (.iconst 1, 1) := by decide +kernel
theorem dX1_change_58 : decode cX1_change 58 = .ok (.isub, 1) := by decide +kernel
theorem dX1_change_59 : decode cX1_change 59 = .ok (.istore_n 3, 1) := by decide +kernel
theorem dX1_change_60 : decode cX1_change 60 = .ok (.aload_n 0, 1) := by decide +kernel
theorem dX1_change_61 : decode cX1_change 61 = .ok (.getfield 7, 3) := by decide +kernel
theorem dX1_change_64 : decode cX1_change 64 = .ok (.iload_n 1, 1) := by decide +kernel
theorem dX1_change_65 : decode cX1_change 65 = .ok (.iload_n 2, 1) := by decide +kernel
theorem dX1_change_66 : decode cX1_change 66 = .ok (.iconst 1, 1) := by decide +kernel
theorem dX1_change_67 : decode cX1_change 67 = .ok (.iadd, 1) := by decide +kernel
theorem dX1_change_68 : decode cX1_change 68 = .ok (.iastore, 1) := by decide +kernel
theorem dX1_change_69 : decode cX1_change 69 = .ok (.aload_n 0, 1) := by decide +kernel
theorem dX1_change_70 : decode cX1_change 70 = .ok (.getfield 26, 3) := by decide +kernel
theorem dX1_change_73 : decode cX1_change 73 = .ok (.iload_n 1, 1) := by decide +kernel
theorem dX1_change_74 : decode cX1_change 74 = .ok (.iconst 1, 1) := by decide +kernel
theorem dX1_change_75 : decode cX1_change 75 = .ok (.bastore, 1) := by decide +kernel
theorem dX1_change_76 : decode cX1_change 76 = .ok (.iload_n 3, 1) := by decide +kernel
theorem dX1_change_77 : decode cX1_change 77 = .ok (.ireturn, 1) := by decide +kernel
set_option maxRecDepth 20000 in
theorem ggX1_leave_X1_isKey : GoodIn wsX1_leave wsX1_isKey := goodIn_r _ [7, 8, 9, 6, 10] (by decide +kernel) (by decide +kernel)
set_option maxRecDepth 20000 in
theorem gX1_leave_X1_isKey : GoodIn wsX1_leave (va_wsS RX1 58 yX1_isKey wsX1_isKey) := goodIn_app (goodIn_of _ (by decide +kernel)) ggX1_leave_X1_isKey
set_option maxRecDepth 20000 in
theorem ggX1_leave_X1_isThere : GoodIn wsX1_leave wsX1_isThere := goodIn_r _ [14, 2, 15, 16, 17, 18, 19, 20, 21, 22, 23, 24, 25, 26, 27, 28, 29, 30, 31, 32] (by decide +kernel) (by decide +kernel)
set_option maxRecDepth 20000 in
theorem gX1_leave_X1_isThere : GoodIn wsX1_leave (wsV RX1 62 RX1 yX1_isThere wsX1_isThere) := goodIn_app (goodIn_of _ (by decide +kernel)) ggX1_leave_X1_isThere
theorem dX1_leave_0 : decode cX1_leave 0 = .ok (.aload_n 0, 1) := by decide +kernel
theorem dX1_leave_1 : decode cX1_leave 1 = .ok (.iload_n 1, 1) := by decide +kernel
theorem dX1_leave_2 : decode cX1_leave 2 = .ok (.invokestatic 58, 3) := by decide +kernel
theorem dX1_leave_5 : decode cX1_leave 5 = .ok (.ifCond .ne 7, 3) := by decide +kernel
theorem dX1_leave_8 : decode cX1_leave 8 = .ok (.iconst 1, 1) := by decide +kernel
theorem dX1_leave_9 : decode cX1_leave 9 = .ok (.goto 16, 3) := by decide +kernel
theorem dX1_leave_12 : decode cX1_leave 12 = .ok (.aload_n 0, 1) := by decide +kernel
theorem dX1_leave_13 : decode cX1_leave 13 = .ok (.iload_n 1, 1) := by decide +kernel
theorem dX1_leave_14 : decode cX1_leave 14 = .ok (.invokevirtual 62, 3) := by decide +kernel
theorem dX1_leave_17 : decode cX1_leave 17 = .ok (.ifCond .eq 7, 3) := by decide +kernel
theorem dX1_leave_20 : decode cX1_leave 20 = .ok (.iconst 0, 1) := by decide +kernel
theorem dX1_leave_21 : decode cX1_leave 21 = .ok (.goto 4, 3) := by decide +kernel
theorem dX1_leave_24 : decode cX1_leave 24 = .ok (.iconst 2, 1) := by decide +kernel
theorem dX1_leave_25 : decode cX1_leave 25 = .ok (.putfield 51, 3) := by decide +kernel
theorem dX1_leave_28 : decode cX1_leave 28 = .ok (.aload_n 0, 1) := by decide +kernel
theorem dX1_leave_29 : decode cX1_leave 29 = .ok (.getfield 51, 3) := by decide +kernel
theorem dX1_leave_32 : decode cX1_leave 32 = .ok (.ifCond .le 5, 3) := by decide +kernel
theorem dX1_leave_35 : decode cX1_leave 35 = .ok (.iconst 0, 1) := by decide +kernel
theorem dX1_leave_36 : decode cX1_leave 36 = .ok (.ireturn, 1) := by decide +kernel
theorem dX1_leave_37 : decode cX1_leave 37 = .ok (.aload_n 0, 1) := by decide +kernel
theorem dX1_leave_38 : decode cX1_leave 38 = .ok (.getfield 7, 3) := by decide +kernel
theorem dX1_leave_41 : decode cX1_leave 41 = .ok (.iload_n 1, 1) := by decide +kernel
theorem dX1_leave_42 : decode cX1_leave 42 = .ok (.iaload, 1) := by decide +kernel
theorem dX1_leave_43 : decode cX1_leave 43 = .ok (.iconst 1, 1) := by decide +kernel
theorem dX1_leave_44 : decode cX1_leave 44 = .ok (.isub, 1) := by decide +kernel
theorem dX1_leave_45 : decode cX1_leave 45 = .ok (.istore_n 2, 1) := by decide +kernel
theorem dX1_leave_46 : decode cX1_leave 46 = .ok (.aload_n 0, 1) := by decide +kernel
theorem dX1_leave_47 : decode cX1_leave 47 = .ok (.getfield 7, 3) := by decide +kernel
theorem dX1_leave_50 : decode cX1_leave 50 = .ok (.iload_n 1, 1) := by decide +kernel
theorem dX1_leave_51 : decode cX1_leave 51 = .ok (.iconst 0, 1) := by decide +kernel
theorem dX1_leave_52 : decode cX1_leave 52 = .ok (.iastore, 1) := by decide +kernel
theorem dX1_leave_53 : decode cX1_leave 53 = .ok (.aload_n 0, 1) := by decide +kernel
theorem dX1_leave_54 : decode cX1_leave 54 = .ok (.dup, 1) := by decide +kernel
theorem dX1_leave_55 : decode cX1_leave 55 = .ok (.getfield 65, 3) := by decide +kernel
theorem dX1_leave_58 : decode cX1_leave 58 = .ok (.iconst 1, 1) := by decide +kernel
theorem dX1_leave_59 : decode cX1_leave 59 = .ok (.isub, 1) := by decide +kernel
theorem dX1_leave_60 : decode cX1_leave 60 = .ok (.putfield 65, 3) := by decide +kernel
theorem dX1_leave_63 : decode cX1_leave 63 = .ok (.iload_n 2, 1) := by decide +kernel
theorem dX1_leave_64 : decode cX1_leave 64 = .ok (.ireturn, 1) := by decide +kernel
set_option maxRecDepth 20000 in
theorem ggX1_asksKey_X1_isKey : GoodIn wsX1_asksKey wsX1_isKey := goodIn_r _ [5, 6, 7, 4, 8] (by decide +kernel) (by decide +kernel)
set_option maxRecDepth 20000 in
theorem gX1_asksKey_X1_isKey : GoodIn wsX1_asksKey (va_wsS RX1 58 yX1_isKey wsX1_isKey) := goodIn_app (goodIn_of _ (by decide +kernel)) ggX1_asksKey_X1_isKey
theorem dX1_asksKey_0 : decode cX1_asksKey 0 = .ok (.aload_n 0, 1) := by decide +kernel
theorem dX1_asksKey_1 : decode cX1_asksKey 1 = .ok (.iload_n 1, 1) := by decide +kernel
theorem dX1_asksKey_2 : decode cX1_asksKey 2 = .ok (.invokestatic 58, 3) := by decide +kernel
theorem dX1_asksKey_5 : decode cX1_asksKey 5 = .ok (.ifCond .eq 7, 3) := by decide +kernel
theorem dX1_asksKey_8 : decode cX1_asksKey 8 = .ok (.iconst 0, 1) := by decide +kernel
theorem dX1_asksKey_9 : decode cX1_asksKey 9 = .ok (.goto 4, 3) := by decide +kernel
theorem dX1_asksKey_12 : decode cX1_asksKey 12 = .ok (.iconst 1, 1) := by decide +kernel
theorem dX1_asksKey_13 : decode cX1_asksKey 13 = .ok (.putfield 51, 3) := by decide +kernel
theorem dX1_asksKey_16 : decode cX1_asksKey 16 = .ok (.aload_n 0, 1) := by decide +kernel
theorem dX1_asksKey_17 : decode cX1_asksKey 17 = .ok (.getfield 51, 3) := by decide +kernel
theorem dX1_asksKey_20 : decode cX1_asksKey 20 = .ok (.ifCond .ne 7, 3) := by decide +kernel
theorem dX1_asksKey_23 : decode cX1_asksKey 23 = .ok (.iconst 1, 1) := by decide +kernel
theorem dX1_asksKey_24 : decode cX1_asksKey 24 = .ok (.goto 4, 3) := by decide +kernel
theorem dX1_asksKey_27 : decode cX1_asksKey 27 = .ok (.iconst 0, 1) := by decide +kernel
theorem dX1_asksKey_28 : decode cX1_asksKey 28 = .ok (.ireturn, 1) := by decide +kernel
set_option maxRecDepth 20000 in
theorem ggX1_address_X1_asksKey : GoodIn wsX1_address wsX1_asksKey := goodIn_r _ [6, 7, 8, 9, 5, 10, 11, 12, 13, 14, 15, 16, 17, 18, 19, 20, 21, 22, 23, 24, 25, 26, 27, 28, 29, 30, 31] (by decide +kernel) (by decide +kernel)
set_option maxRecDepth 20000 in
theorem gX1_address_X1_asksKey : GoodIn wsX1_address (wsV RX1 68 RX1 yX1_asksKey wsX1_asksKey) := goodIn_app (goodIn_of _ (by decide +kernel)) ggX1_address_X1_asksKey
theorem dX1_address_0 : decode cX1_address 0 = .ok (.aload_n 0, 1) := by decide +kernel
theorem dX1_address_1 : decode cX1_address 1 = .ok (.iload_n 1, 1) := by decide +kernel
theorem dX1_address_2 : decode cX1_address 2 = .ok (.invokevirtual 68, 3) := by decide +kernel
theorem dX1_address_5 : decode cX1_address 5 = .ok (.ifCond .eq 14, 3) := by decide +kernel
theorem dX1_address_8 : decode cX1_address 8 = .ok (.aload_n 0, 1) := by decide +kernel
theorem dX1_address_9 : decode cX1_address 9 = .ok (.getfield 7, 3) := by decide +kernel
theorem dX1_address_12 : decode cX1_address 12 = .ok (.iload_n 1, 1) := by decide +kernel
theorem dX1_address_13 : decode cX1_address 13 = .ok (.iaload, 1) := by decide +kernel
theorem dX1_address_14 : decode cX1_address 14 = .ok (.iconst 1, 1) := by decide +kernel
theorem dX1_address_15 : decode cX1_address 15 = .ok (.isub, 1) := by decide +kernel
theorem dX1_address_16 : decode cX1_address 16 = .ok (.goto 4, 3) := by decide +kernel
theorem dX1_address_19 : decode cX1_address 19 = .ok (.iconst 0, 1) := by decide +kernel
theorem dX1_address_20 : decode cX1_address 20 = .ok (.ireturn, 1) := by decide +kernel
set_option maxRecDepth 20000 in
theorem ggX1_inDistrict_X1_isShard : GoodIn wsX1_inDistrict wsX1_isShard := goodIn_r _ [6, 7, 8, 5, 9] (by decide +kernel) (by decide +kernel)
set_option maxRecDepth 20000 in
theorem gX1_inDistrict_X1_isShard : GoodIn wsX1_inDistrict (va_wsS RX1 71 yX1_isShard wsX1_isShard) := goodIn_app (goodIn_of _ (by decide +kernel)) ggX1_inDistrict_X1_isShard
set_option maxRecDepth 20000 in
theorem ggX1_inDistrict_X1_isThere : GoodIn wsX1_inDistrict wsX1_isThere := goodIn_r _ [13, 2, 14, 15, 16, 17, 18, 19, 20, 21, 22, 23, 24, 25, 26, 27, 28, 29, 30, 31] (by decide +kernel) (by decide +kernel)
set_option maxRecDepth 20000 in
theorem gX1_inDistrict_X1_isThere : GoodIn wsX1_inDistrict (wsV RX1 62 RX1 yX1_isThere wsX1_isThere) := goodIn_app (goodIn_of _ (by decide +kernel)) ggX1_inDistrict_X1_isThere
theorem dX1_inDistrict_0 : decode cX1_inDistrict 0 = .ok (.aload_n 0, 1) := by decide +kernel
theorem dX1_inDistrict_1 : decode cX1_inDistrict 1 = .ok (.iload_n 1, 1) := by decide +kernel
theorem dX1_inDistrict_2 : decode cX1_inDistrict 2 = .ok (.invokestatic 71, 3) := by decide +kernel
theorem dX1_inDistrict_5 : decode cX1_inDistrict 5 = .ok (.ifCond .eq 7, 3) := by decide +kernel
theorem dX1_inDistrict_8 : decode cX1_inDistrict 8 = .ok (.iconst 0, 1) := by decide +kernel
theorem dX1_inDistrict_9 : decode cX1_inDistrict 9 = .ok (.goto 4, 3) := by decide +kernel
theorem dX1_inDistrict_12 : decode cX1_inDistrict 12 = .ok (.iconst 1, 1) := by decide +kernel
theorem dX1_inDistrict_13 : decode cX1_inDistrict 13 = .ok (.putfield 51, 3) := by decide +kernel
theorem dX1_inDistrict_16 : decode cX1_inDistrict 16 = .ok (.iconst 0, 1) := by decide +kernel
theorem dX1_inDistrict_17 : decode cX1_inDistrict 17 = .ok (.istore_n 2, 1) := by decide +kernel
theorem dX1_inDistrict_18 : decode cX1_inDistrict 18 = .ok (.iconst 0, 1) := by decide +kernel
theorem dX1_inDistrict_19 : decode cX1_inDistrict 19 = .ok (.istore_n 3, 1) := by decide +kernel
theorem dX1_inDistrict_20 : decode cX1_inDistrict 20 = .ok (.iload_n 3, 1) := by decide +kernel
theorem dX1_inDistrict_21 : decode cX1_inDistrict 21 = .ok (.bipush 100, 2) := by decide +kernel
theorem dX1_inDistrict_23 : decode cX1_inDistrict 23 = .ok (.if_icmp .ge 47, 3) := by decide +kernel
theorem dX1_inDistrict_26 : decode cX1_inDistrict 26 = .ok (.aload_n 0, 1) := by decide +kernel
theorem dX1_inDistrict_27 : decode cX1_inDistrict 27 = .ok (.getfield 51, 3) := by decide +kernel
theorem dX1_inDistrict_30 : decode cX1_inDistrict 30 = .ok (.ifCond .ne 40, 3) := by decide +kernel
theorem dX1_inDistrict_33 : decode cX1_inDistrict 33 = .ok (.iload_n 2, 1) := by decide +kernel
theorem dX1_inDistrict_34 : decode cX1_inDistrict 34 = .ok (.aload_n 0, 1) := by decide +kernel
theorem dX1_inDistrict_35 : decode cX1_inDistrict 35 = .ok (.iload_n 3, 1) := by decide +kernel
theorem dX1_inDistrict_36 : decode cX1_inDistrict 36 = .ok (.invokevirtual 62, 3) := by decide +kernel
theorem dX1_inDistrict_39 : decode cX1_inDistrict 39 = .ok (.ifCond .eq 22, 3) := by decide +kernel
theorem dX1_inDistrict_42 : decode cX1_inDistrict 42 = .ok (.aload_n 0, 1) := by decide +kernel
theorem dX1_inDistrict_43 : decode cX1_inDistrict 43 = .ok (.getfield 7, 3) := by decide +kernel
theorem dX1_inDistrict_46 : decode cX1_inDistrict 46 = .ok (.iload_n 3, 1) := by decide +kernel
theorem dX1_inDistrict_47 : decode cX1_inDistrict 47 = .ok (.iaload, 1) := by decide +kernel
theorem dX1_inDistrict_48 : decode cX1_inDistrict 48 = .ok (.iconst 1, 1) := by decide +kernel
theorem dX1_inDistrict_49 : decode cX1_inDistrict 49 = .ok (.isub, 1) := by decide +kernel
theorem dX1_inDistrict_50 : decode cX1_inDistrict 50 = .ok (.bipush 10, 2) := by decide +kernel
theorem dX1_inDistrict_52 : decode cX1_inDistrict 52 = .ok (.idiv, 1) := by decide +kernel
theorem dX1_inDistrict_53 : decode cX1_inDistrict 53 = .ok (.iload_n 1, 1) := by decide +kernel
theorem dX1_inDistrict_54 : decode cX1_inDistrict 54 = .ok (.if_icmp .ne 7, 3) := by decide +kernel
theorem dX1_inDistrict_57 : decode cX1_inDistrict 57 = .ok (.iconst 1, 1) := by decide +kernel
theorem dX1_inDistrict_58 : decode cX1_inDistrict 58 = .ok (.goto 4, 3) := by decide +kernel
theorem dX1_inDistrict_61 : decode cX1_inDistrict 61 = .ok (.iconst 0, 1) := by decide +kernel
theorem dX1_inDistrict_62 : decode cX1_inDistrict 62 = .ok (.iadd, 1) := by decide +kernel
theorem dX1_inDistrict_63 : decode cX1_inDistrict 63 = .ok (.istore_n 2, 1) := by decide +kernel
theorem dX1_inDistrict_64 : decode cX1_inDistrict 64 = .ok (.iinc 3 1, 3) := by decide +kernel
theorem dX1_inDistrict_67 : decode cX1_inDistrict 67 = .ok (.goto (-47), 3) := by decide +kernel
theorem dX1_inDistrict_70 : decode cX1_inDistrict 70 = .ok (.iload_n 2, 1) := by decide +kernel
theorem dX1_inDistrict_71 : decode cX1_inDistrict 71 = .ok (.ireturn, 1) := by decide +kernel
theorem dX1_behind_0 : decode cX1_behind 0 = .ok (.iload_n 1, 1) := by decide +kernel
theorem dX1_behind_1 : decode cX1_behind 1 = .ok (.iconst 1, 1) := by decide +kernel
theorem dX1_behind_2 : decode cX1_behind 2 = .ok (.iadd, 1) := by decide +kernel
theorem dX1_behind_3 : decode cX1_behind 3 = .ok (.aload_n 0, 1) := by decide +kernel
theorem dX1_behind_4 : decode cX1_behind 4 = .ok (.getfield 13, 3) := by decide +kernel
theorem dX1_behind_7 : decode cX1_behind 7 = .ok (.if_icmp .ne 8, 3) := by decide +kernel
theorem dX1_behind_10 : decode cX1_behind 10 = .ok (.bipush 100, 2) := by decide +kernel
theorem dX1_behind_12 : decode cX1_behind 12 = .ok (.goto 11, 3) := by decide +kernel
theorem dX1_behind_15 : decode cX1_behind 15 = .ok (.aload_n 0, 1) := by decide +kernel
theorem dX1_behind_16 : decode cX1_behind 16 = .ok (.getfield 17, 3) := by decide +kernel
theorem dX1_behind_19 : decode cX1_behind 19 = .ok (.iload_n 1, 1) := by decide +kernel
theorem dX1_behind_20 : decode cX1_behind 20 = .ok (.iconst 1, 1) := by decide +kernel
theorem dX1_behind_21 : decode cX1_behind 21 = .ok (.iadd, 1) := by decide +kernel
theorem dX1_behind_22 : decode cX1_behind 22 = .ok (.iaload, 1) := by decide +kernel
theorem dX1_behind_23 : decode cX1_behind 23 = .ok (.ireturn, 1) := by decide +kernel
theorem dX1_rangeAt_0 : decode cX1_rangeAt 0 = .ok (.iconst 0, 1) := by decide +kernel
theorem dX1_rangeAt_1 : decode cX1_rangeAt 1 = .ok (.istore_n 2, 1) := by decide +kernel
theorem dX1_rangeAt_2 : decode cX1_rangeAt 2 = .ok (.iconst 0, 1) := by decide +kernel
theorem dX1_rangeAt_3 : decode cX1_rangeAt 3 = .ok (.istore_n 3, 1) := by decide +kernel
theorem dX1_rangeAt_4 : decode cX1_rangeAt 4 = .ok (.iload_n 3, 1) := by decide +kernel
theorem dX1_rangeAt_5 : decode cX1_rangeAt 5 = .ok (.aload_n 0, 1) := by decide +kernel
theorem dX1_rangeAt_6 : decode cX1_rangeAt 6 = .ok (.getfield 13, 3) := by decide +kernel
theorem dX1_rangeAt_9 : decode cX1_rangeAt 9 = .ok (.if_icmp .ge 25, 3) := by decide +kernel
theorem dX1_rangeAt_12 : decode cX1_rangeAt 12 = .ok (.aload_n 0, 1) := by decide +kernel
theorem dX1_rangeAt_13 : decode cX1_rangeAt 13 = .ok (.getfield 17, 3) := by decide +kernel
theorem dX1_rangeAt_16 : decode cX1_rangeAt 16 = .ok (.iload_n 3, 1) := by decide +kernel
theorem dX1_rangeAt_17 : decode cX1_rangeAt 17 = .ok (.iaload, 1) := by decide +kernel
theorem dX1_rangeAt_18 : decode cX1_rangeAt 18 = .ok (.iload_n 1, 1) := by decide +kernel
theorem dX1_rangeAt_19 : decode cX1_rangeAt 19 = .ok (.if_icmp .gt 7, 3) := by decide +kernel
theorem dX1_rangeAt_22 : decode cX1_rangeAt 22 = .ok (.iload_n 3, 1) := by decide +kernel
theorem dX1_rangeAt_23 : decode cX1_rangeAt 23 = .ok (.goto 4, 3) := by decide +kernel
theorem dX1_rangeAt_26 : decode cX1_rangeAt 26 = .ok (.iload_n 2, 1) := by decide +kernel
theorem dX1_rangeAt_27 : decode cX1_rangeAt 27 = .ok (.istore_n 2, 1) := by decide +kernel
theorem dX1_rangeAt_28 : decode cX1_rangeAt 28 = .ok (.iinc 3 1, 3) := by decide +kernel
theorem dX1_rangeAt_31 : decode cX1_rangeAt 31 = .ok (.goto (-27), 3) := by decide +kernel
theorem dX1_rangeAt_34 : decode cX1_rangeAt 34 = .ok (.iload_n 2, 1) := by decide +kernel
theorem dX1_rangeAt_35 : decode cX1_rangeAt 35 = .ok (.ireturn, 1) := by decide +kernel
theorem dX1_copies_0 : decode cX1_copies 0 = .ok (.aload_n 0, 1) := by decide +kernel
theorem dX1_copies_1 : decode cX1_copies 1 = .ok (.getfield 17, 3) := by decide +kernel
theorem dX1_copies_4 : decode cX1_copies 4 = .ok (.iload_n 2, 1) := by decide +kernel
theorem dX1_copies_5 : decode cX1_copies 5 = .ok (.aload_n 0, 1) := by decide +kernel
theorem dX1_copies_6 : decode cX1_copies 6 = .ok (.getfield 17, 3) := by decide +kernel
theorem dX1_copies_9 : decode cX1_copies 9 = .ok (.iload_n 1, 1) := by decide +kernel
theorem dX1_copies_10 : decode cX1_copies 10 = .ok (.iaload, 1) := by decide +kernel
theorem dX1_copies_11 : decode cX1_copies 11 = .ok (.iastore, 1) := by decide +kernel
theorem dX1_copies_12 : decode cX1_copies 12 = .ok (.aload_n 0, 1) := by decide +kernel
theorem dX1_copies_13 : decode cX1_copies 13 = .ok (.getfield 20, 3) := by decide +kernel
theorem dX1_copies_16 : decode cX1_copies 16 = .ok (.iload_n 2, 1) := by decide +kernel
theorem dX1_copies_17 : decode cX1_copies 17 = .ok (.aload_n 0, 1) := by decide +kernel
theorem dX1_copies_18 : decode cX1_copies 18 = .ok (.getfield 20, 3) := by decide +kernel
theorem dX1_copies_21 : decode cX1_copies 21 = .ok (.iload_n 1, 1) := by decide +kernel
theorem dX1_copies_22 : decode cX1_copies 22 = .ok (.iaload, 1) := by decide +kernel
theorem dX1_copies_23 : decode cX1_copies 23 = .ok (.iastore, 1) := by decide +kernel
theorem dX1_copies_24 : decode cX1_copies 24 = .ok (.aload_n 0, 1) := by decide +kernel
theorem dX1_copies_25 : decode cX1_copies 25 = .ok (.getfield 23, 3) := by decide +kernel
theorem dX1_copies_28 : decode cX1_copies 28 = .ok (.iload_n 2, 1) := by decide +kernel
theorem dX1_copies_29 : decode cX1_copies 29 = .ok (.aload_n 0, 1) := by decide +kernel
theorem dX1_copies_30 : decode cX1_copies 30 = .ok (.getfield 23, 3) := by decide +kernel
theorem dX1_copies_33 : decode cX1_copies 33 = .ok (.iload_n 1, 1) := by decide +kernel
theorem dX1_copies_34 : decode cX1_copies 34 = .ok (.iaload, 1) := by decide +kernel
theorem dX1_copies_35 : decode cX1_copies 35 = .ok (.iastore, 1) := by decide +kernel
theorem dX1_copies_36 : decode cX1_copies 36 = .ok (.return_, 1) := by decide +kernel
set_option maxRecDepth 20000 in
theorem ggX1_split_X1_asksKey : GoodIn wsX1_split wsX1_asksKey := goodIn_r _ [10, 3, 11, 12, 9, 13, 14, 15, 16, 29, 30, 31, 32, 33, 34, 35, 36, 37, 38, 39, 40, 41, 42, 43, 44, 45, 46] (by decide +kernel) (by decide +kernel)
set_option maxRecDepth 20000 in
theorem gX1_split_X1_asksKey : GoodIn wsX1_split (wsV RX1 68 RX1 yX1_asksKey wsX1_asksKey) := goodIn_app (goodIn_of _ (by decide +kernel)) ggX1_split_X1_asksKey
set_option maxRecDepth 20000 in
theorem ggX1_split_X1_rangeAt : GoodIn wsX1_split wsX1_rangeAt := goodIn_r _ [20, 2, 4, 29, 30, 31, 32, 33, 34, 35, 36, 37, 38, 39, 40, 41, 42, 43, 44, 45, 46] (by decide +kernel) (by decide +kernel)
set_option maxRecDepth 20000 in
theorem gX1_split_X1_rangeAt : GoodIn wsX1_split (wsV RX1 74 RX1 yX1_rangeAt wsX1_rangeAt) := goodIn_app (goodIn_of _ (by decide +kernel)) ggX1_split_X1_rangeAt
set_option maxRecDepth 20000 in
theorem ggX1_split_X1_behind : GoodIn wsX1_split wsX1_behind := goodIn_r _ [24, 2, 4, 29, 30, 31, 32, 33, 34, 35, 36, 37, 38, 39, 40, 41, 42, 43, 44, 45, 46] (by decide +kernel) (by decide +kernel)
set_option maxRecDepth 20000 in
theorem gX1_split_X1_behind : GoodIn wsX1_split (wsV RX1 78 RX1 yX1_behind wsX1_behind) := goodIn_app (goodIn_of _ (by decide +kernel)) ggX1_split_X1_behind
set_option maxRecDepth 20000 in
theorem ggX1_split_X1_copies : GoodIn wsX1_split wsX1_copies := goodIn_r _ [28, 4, 5, 1, 29, 30, 31, 32, 33, 34, 35, 36, 37, 38, 39, 40, 41, 42, 43, 44, 45, 46] (by decide +kernel) (by decide +kernel)
set_option maxRecDepth 20000 in
theorem gX1_split_X1_copies : GoodIn wsX1_split (wsV RX1 81 RX1 yX1_copies wsX1_copies) := goodIn_app (goodIn_of _ (by decide +kernel)) ggX1_split_X1_copies
theorem dX1_split_0 : decode cX1_split 0 = .ok (.aload_n 0, 1) := by decide +kernel
theorem dX1_split_1 : decode cX1_split 1 = .ok (.iload_n 1, 1) := by decide +kernel
theorem dX1_split_2 : decode cX1_split 2 = .ok (.invokevirtual 68, 3) := by decide +kernel
theorem dX1_split_5 : decode cX1_split 5 = .ok (.ifCond .ne 5, 3) := by decide +kernel
theorem dX1_split_8 : decode cX1_split 8 = .ok (.iconst 0, 1) := by decide +kernel
theorem dX1_split_9 : decode cX1_split 9 = .ok (.ireturn, 1) := by decide +kernel
theorem dX1_split_10 : decode cX1_split 10 = .ok (.aload_n 0, 1) := by decide +kernel
theorem dX1_split_11 : decode cX1_split 11 = .ok (.iload_n 1, 1) := by decide +kernel
theorem dX1_split_12 : decode cX1_split 12 = .ok (.invokevirtual 74, 3) := by decide +kernel
theorem dX1_split_15 : decode cX1_split 15 = .ok (.istore_n 2, 1) := by decide +kernel
theorem dX1_split_16 : decode cX1_split 16 = .ok (.aload_n 0, 1) := by decide +kernel
theorem dX1_split_17 : decode cX1_split 17 = .ok (.iload_n 1, 1) := by decide +kernel
theorem dX1_split_18 : decode cX1_split 18 = .ok (.iconst 1, 1) := by decide +kernel
theorem dX1_split_19 : decode cX1_split 19 = .ok (.iadd, 1) := by decide +kernel
theorem dX1_split_20 : decode cX1_split 20 = .ok (.aload_n 0, 1) := by decide +kernel
theorem dX1_split_21 : decode cX1_split 21 = .ok (.iload_n 2, 1) := by decide +kernel
theorem dX1_split_22 : decode cX1_split 22 = .ok (.invokevirtual 78, 3) := by decide +kernel
theorem dX1_split_25 : decode cX1_split 25 = .ok (.if_icmp .eq 22, 3) := by decide +kernel
theorem dX1_split_28 : decode cX1_split 28 = .ok (.aload_n 0, 1) := by decide +kernel
theorem dX1_split_29 : decode cX1_split 29 = .ok (.getfield 23, 3) := by decide +kernel
theorem dX1_split_32 : decode cX1_split 32 = .ok (.iload_n 2, 1) := by decide +kernel
theorem dX1_split_33 : decode cX1_split 33 = .ok (.iaload, 1) := by decide +kernel
theorem dX1_split_34 : decode cX1_split 34 = .ok (.iconst (-1), 1) := by decide +kernel
theorem dX1_split_35 : decode cX1_split 35 = .ok (.if_icmp .ne 12, 3) := by decide +kernel
theorem dX1_split_38 : decode cX1_split 38 = .ok (.aload_n 0, 1) := by decide +kernel
theorem dX1_split_39 : decode cX1_split 39 = .ok (.getfield 13, 3) := by decide +kernel
theorem dX1_split_42 : decode cX1_split 42 = .ok (.bipush 8, 2) := by decide +kernel
theorem dX1_split_44 : decode cX1_split 44 = .ok (.if_icmp .ne 7, 3) := by decide +kernel
theorem dX1_split_47 : decode cX1_split 47 = .ok (.iconst 2, 1) := by decide +kernel
theorem dX1_split_48 : decode cX1_split 48 = .ok (.goto 4, 3) := by decide +kernel
theorem dX1_split_51 : decode cX1_split 51 = .ok (.iconst 0, 1) := by decide +kernel
theorem dX1_split_52 : decode cX1_split 52 = .ok (.putfield 51, 3) := by decide +kernel
theorem dX1_split_55 : decode cX1_split 55 = .ok (.aload_n 0, 1) := by decide +kernel
theorem dX1_split_56 : decode cX1_split 56 = .ok (.getfield 51, 3) := by decide +kernel
theorem dX1_split_59 : decode cX1_split 59 = .ok (.ifCond .le 5, 3) := by decide +kernel
theorem dX1_split_62 : decode cX1_split 62 = .ok (.iconst 0, 1) := by decide +kernel
theorem dX1_split_63 : decode cX1_split 63 = .ok (.ireturn, 1) := by decide +kernel
theorem dX1_split_64 : decode cX1_split 64 = .ok (.aload_n 0, 1) := by decide +kernel
theorem dX1_split_65 : decode cX1_split 65 = .ok (.getfield 13, 3) := by decide +kernel
theorem dX1_split_68 : decode cX1_split 68 = .ok (.istore_n 3, 1) := by decide +kernel
theorem dX1_split_69 : decode cX1_split 69 = .ok (.iload_n 3, 1) := by decide +kernel
theorem dX1_split_70 : decode cX1_split 70 = .ok (.iload_n 2, 1) := by decide +kernel
theorem dX1_split_71 : decode cX1_split 71 = .ok (.iconst 1, 1) := by decide +kernel
theorem dX1_split_72 : decode cX1_split 72 = .ok (.iadd, 1) := by decide +kernel
theorem dX1_split_73 : decode cX1_split 73 = .ok (.if_icmp .le 17, 3) := by decide +kernel
theorem dX1_split_76 : decode cX1_split 76 = .ok (.aload_n 0, 1) := by decide +kernel
theorem dX1_split_77 : decode cX1_split 77 = .ok (.iload_n 3, 1) := by decide +kernel
theorem dX1_split_78 : decode cX1_split 78 = .ok (.iconst 1, 1) := by decide +kernel
theorem dX1_split_79 : decode cX1_split 79 = .ok (.isub, 1) := by decide +kernel
theorem dX1_split_80 : decode cX1_split 80 = .ok (.iload_n 3, 1) := by decide +kernel
theorem dX1_split_81 : decode cX1_split 81 = .ok (.invokevirtual 81, 3) := by decide +kernel
theorem dX1_split_84 : decode cX1_split 84 = .ok (.iinc 3 (-1), 3) := by decide +kernel
theorem dX1_split_87 : decode cX1_split 87 = .ok (.goto (-18), 3) := by decide +kernel
theorem dX1_split_90 : decode cX1_split 90 = .ok (.aload_n 0, 1) := by decide +kernel
theorem dX1_split_91 : decode cX1_split 91 = .ok (.getfield 17, 3) := by decide +kernel
theorem dX1_split_94 : decode cX1_split 94 = .ok (.iload_n 2, 1) := by decide +kernel
theorem dX1_split_95 : decode cX1_split 95 = .ok (.iconst 1, 1) := by decide +kernel
theorem dX1_split_96 : decode cX1_split 96 = .ok (.iadd, 1) := by decide +kernel
theorem dX1_split_97 : decode cX1_split 97 = .ok (.iload_n 1, 1) := by decide +kernel
theorem dX1_split_98 : decode cX1_split 98 = .ok (.iconst 1, 1) := by decide +kernel
theorem dX1_split_99 : decode cX1_split 99 = .ok (.iadd, 1) := by decide +kernel
theorem dX1_split_100 : decode cX1_split 100 = .ok (.iastore, 1) := by decide +kernel
theorem dX1_split_101 : decode cX1_split 101 = .ok (.aload_n 0, 1) := by decide +kernel
theorem dX1_split_102 : decode cX1_split 102 = .ok (.getfield 20, 3) := by decide +kernel
theorem dX1_split_105 : decode cX1_split 105 = .ok (.iload_n 2, 1) := by decide +kernel
theorem dX1_split_106 : decode cX1_split 106 = .ok (.iconst 1, 1) := by decide +kernel
theorem dX1_split_107 : decode cX1_split 107 = .ok (.iadd, 1) := by decide +kernel
theorem dX1_split_108 : decode cX1_split 108 = .ok (.aload_n 0, 1) := by decide +kernel
theorem dX1_split_109 : decode cX1_split 109 = .ok (.getfield 20, 3) := by decide +kernel
theorem dX1_split_112 : decode cX1_split 112 = .ok (.iload_n 2, 1) := by decide +kernel
theorem dX1_split_113 : decode cX1_split 113 = .ok (.iaload, 1) := by decide +kernel
theorem dX1_split_114 : decode cX1_split 114 = .ok (.iastore, 1) := by decide +kernel
theorem dX1_split_115 : decode cX1_split 115 = .ok (.aload_n 0, 1) := by decide +kernel
theorem dX1_split_116 : decode cX1_split 116 = .ok (.getfield 23, 3) := by decide +kernel
theorem dX1_split_119 : decode cX1_split 119 = .ok (.iload_n 2, 1) := by decide +kernel
theorem dX1_split_120 : decode cX1_split 120 = .ok (.iconst 1, 1) := by decide +kernel
theorem dX1_split_121 : decode cX1_split 121 = .ok (.iadd, 1) := by decide +kernel
theorem dX1_split_122 : decode cX1_split 122 = .ok (.iconst (-1), 1) := by decide +kernel
theorem dX1_split_123 : decode cX1_split 123 = .ok (.iastore, 1) := by decide +kernel
theorem dX1_split_124 : decode cX1_split 124 = .ok (.aload_n 0, 1) := by decide +kernel
theorem dX1_split_125 : decode cX1_split 125 = .ok (.dup, 1) := by decide +kernel
theorem dX1_split_126 : decode cX1_split 126 = .ok (.getfield 13, 3) := by decide +kernel
theorem dX1_split_129 : decode cX1_split 129 = .ok (.iconst 1, 1) := by decide +kernel
theorem dX1_split_130 : decode cX1_split 130 = .ok (.iadd, 1) := by decide +kernel
theorem dX1_split_131 : decode cX1_split 131 = .ok (.putfield 13, 3) := by decide +kernel
theorem dX1_split_134 : decode cX1_split 134 = .ok (.iload_n 2, 1) := by decide +kernel
theorem dX1_split_135 : decode cX1_split 135 = .ok (.iconst 1, 1) := by decide +kernel
theorem dX1_split_136 : decode cX1_split 136 = .ok (.iadd, 1) := by decide +kernel
theorem dX1_split_137 : decode cX1_split 137 = .ok (.ireturn, 1) := by decide +kernel
set_option maxRecDepth 20000 in
theorem ggX1_merge_X1_isRange : GoodIn wsX1_merge wsX1_isRange := goodIn_r _ [9, 2, 10, 11, 8, 12, 18, 19, 20, 21, 22, 23, 24, 25, 26, 27, 28, 29, 30, 31, 32, 33, 34, 35] (by decide +kernel) (by decide +kernel)
set_option maxRecDepth 20000 in
theorem gX1_merge_X1_isRange : GoodIn wsX1_merge (wsV RX1 85 RX1 yX1_isRange wsX1_isRange) := goodIn_app (goodIn_of _ (by decide +kernel)) ggX1_merge_X1_isRange
set_option maxRecDepth 20000 in
theorem ggX1_merge_X1_copies : GoodIn wsX1_merge wsX1_copies := goodIn_r _ [16, 17, 3, 4, 18, 19, 20, 21, 22, 23, 24, 25, 26, 27, 28, 29, 30, 31, 32, 33, 34, 35] (by decide +kernel) (by decide +kernel)
set_option maxRecDepth 20000 in
theorem gX1_merge_X1_copies : GoodIn wsX1_merge (wsV RX1 81 RX1 yX1_copies wsX1_copies) := goodIn_app (goodIn_of _ (by decide +kernel)) ggX1_merge_X1_copies
theorem dX1_merge_0 : decode cX1_merge 0 = .ok (.aload_n 0, 1) := by decide +kernel
theorem dX1_merge_1 : decode cX1_merge 1 = .ok (.aload_n 0, 1) := by decide +kernel
theorem dX1_merge_2 : decode cX1_merge 2 = .ok (.iload_n 1, 1) := by decide +kernel
theorem dX1_merge_3 : decode cX1_merge 3 = .ok (.invokevirtual 85, 3) := by decide +kernel
theorem dX1_merge_6 : decode cX1_merge 6 = .ok (.ifCond .eq 7, 3) := by decide +kernel
theorem dX1_merge_9 : decode cX1_merge 9 = .ok (.iconst 0, 1) := by decide +kernel
theorem dX1_merge_10 : decode cX1_merge 10 = .ok (.goto 4, 3) := by decide +kernel
theorem dX1_merge_13 : decode cX1_merge 13 = .ok (.iconst 1, 1) := by decide +kernel
theorem dX1_merge_14 : decode cX1_merge 14 = .ok (.putfield 51, 3) := by decide +kernel
theorem dX1_merge_17 : decode cX1_merge 17 = .ok (.aload_n 0, 1) := by decide +kernel
theorem dX1_merge_18 : decode cX1_merge 18 = .ok (.getfield 51, 3) := by decide +kernel
theorem dX1_merge_21 : decode cX1_merge 21 = .ok (.ifCond .ne 71, 3) := by decide +kernel
theorem dX1_merge_24 : decode cX1_merge 24 = .ok (.iload_n 1, 1) := by decide +kernel
theorem dX1_merge_25 : decode cX1_merge 25 = .ok (.iconst 1, 1) := by decide +kernel
theorem dX1_merge_26 : decode cX1_merge 26 = .ok (.iadd, 1) := by decide +kernel
theorem dX1_merge_27 : decode cX1_merge 27 = .ok (.aload_n 0, 1) := by decide +kernel
theorem dX1_merge_28 : decode cX1_merge 28 = .ok (.getfield 13, 3) := by decide +kernel
theorem dX1_merge_31 : decode cX1_merge 31 = .ok (.if_icmp .ge 46, 3) := by decide +kernel
theorem dX1_merge_34 : decode cX1_merge 34 = .ok (.aload_n 0, 1) := by decide +kernel
theorem dX1_merge_35 : decode cX1_merge 35 = .ok (.getfield 20, 3) := by decide +kernel
theorem dX1_merge_38 : decode cX1_merge 38 = .ok (.iload_n 1, 1) := by decide +kernel
theorem dX1_merge_39 : decode cX1_merge 39 = .ok (.iaload, 1) := by decide +kernel
theorem dX1_merge_40 : decode cX1_merge 40 = .ok (.aload_n 0, 1) := by decide +kernel
theorem dX1_merge_41 : decode cX1_merge 41 = .ok (.getfield 20, 3) := by decide +kernel
theorem dX1_merge_44 : decode cX1_merge 44 = .ok (.iload_n 1, 1) := by decide +kernel
theorem dX1_merge_45 : decode cX1_merge 45 = .ok (.iconst 1, 1) := by decide +kernel
theorem dX1_merge_46 : decode cX1_merge 46 = .ok (.iadd, 1) := by decide +kernel
theorem dX1_merge_47 : decode cX1_merge 47 = .ok (.iaload, 1) := by decide +kernel
theorem dX1_merge_48 : decode cX1_merge 48 = .ok (.if_icmp .ne 29, 3) := by decide +kernel
theorem dX1_merge_51 : decode cX1_merge 51 = .ok (.aload_n 0, 1) := by decide +kernel
theorem dX1_merge_52 : decode cX1_merge 52 = .ok (.getfield 23, 3) := by decide +kernel
theorem dX1_merge_55 : decode cX1_merge 55 = .ok (.iload_n 1, 1) := by decide +kernel
theorem dX1_merge_56 : decode cX1_merge 56 = .ok (.iaload, 1) := by decide +kernel
theorem dX1_merge_57 : decode cX1_merge 57 = .ok (.iconst (-1), 1) := by decide +kernel
theorem dX1_merge_58 : decode cX1_merge 58 = .ok (.if_icmp .ne 19, 3) := by decide +kernel
theorem dX1_merge_61 : decode cX1_merge 61 = .ok (.aload_n 0, 1) := by decide +kernel
theorem dX1_merge_62 : decode cX1_merge 62 = .ok (.getfield 23, 3) := by decide +kernel
theorem dX1_merge_65 : decode cX1_merge 65 = .ok (.iload_n 1, 1) := by decide +kernel
theorem dX1_merge_66 : decode cX1_merge 66 = .ok (.iconst 1, 1) := by decide +kernel
theorem dX1_merge_67 : decode cX1_merge 67 = .ok (.iadd, 1) := by decide +kernel
theorem dX1_merge_68 : decode cX1_merge 68 = .ok (.iaload, 1) := by decide +kernel
theorem dX1_merge_69 : decode cX1_merge 69 = .ok (.iconst (-1), 1) := by decide +kernel
theorem dX1_merge_70 : decode cX1_merge 70 = .ok (.if_icmp .ne 7, 3) := by decide +kernel
theorem dX1_merge_73 : decode cX1_merge 73 = .ok (.iconst 1, 1) := by decide +kernel
theorem dX1_merge_74 : decode cX1_merge 74 = .ok (.goto 4, 3) := by decide +kernel
theorem dX1_merge_77 : decode cX1_merge 77 = .ok (.iconst 0, 1) := by decide +kernel
theorem dX1_merge_78 : decode cX1_merge 78 = .ok (.istore_n 2, 1) := by decide +kernel
theorem dX1_merge_79 : decode cX1_merge 79 = .ok (.aload_n 0, 1) := by decide +kernel
theorem dX1_merge_80 : decode cX1_merge 80 = .ok (.iload_n 2, 1) := by decide +kernel
theorem dX1_merge_81 : decode cX1_merge 81 = .ok (.ifCond .eq 7, 3) := by decide +kernel
theorem dX1_merge_84 : decode cX1_merge 84 = .ok (.iconst 0, 1) := by decide +kernel
theorem dX1_merge_85 : decode cX1_merge 85 = .ok (.goto 4, 3) := by decide +kernel
theorem dX1_merge_88 : decode cX1_merge 88 = .ok (.iconst 2, 1) := by decide +kernel
theorem dX1_merge_89 : decode cX1_merge 89 = .ok (.putfield 51, 3) := by decide +kernel
theorem dX1_merge_92 : decode cX1_merge 92 = .ok (.aload_n 0, 1) := by decide +kernel
theorem dX1_merge_93 : decode cX1_merge 93 = .ok (.getfield 51, 3) := by decide +kernel
theorem dX1_merge_96 : decode cX1_merge 96 = .ok (.ifCond .le 5, 3) := by decide +kernel
theorem dX1_merge_99 : decode cX1_merge 99 = .ok (.iconst 0, 1) := by decide +kernel
theorem dX1_merge_100 : decode cX1_merge 100 = .ok (.ireturn, 1) := by decide +kernel
theorem dX1_merge_101 : decode cX1_merge 101 = .ok (.iload_n 1, 1) := by decide +kernel
theorem dX1_merge_102 : decode cX1_merge 102 = .ok (.iconst 2, 1) := by decide +kernel
theorem dX1_merge_103 : decode cX1_merge 103 = .ok (.iadd, 1) := by decide +kernel
theorem dX1_merge_104 : decode cX1_merge 104 = .ok (.istore_n 2, 1) := by decide +kernel
theorem dX1_merge_105 : decode cX1_merge 105 = .ok (.iload_n 2, 1) := by decide +kernel
theorem dX1_merge_106 : decode cX1_merge 106 = .ok (.aload_n 0, 1) := by decide +kernel
theorem dX1_merge_107 : decode cX1_merge 107 = .ok (.getfield 13, 3) := by decide +kernel
theorem dX1_merge_110 : decode cX1_merge 110 = .ok (.if_icmp .ge 17, 3) := by decide +kernel
theorem dX1_merge_113 : decode cX1_merge 113 = .ok (.aload_n 0, 1) := by decide +kernel
theorem dX1_merge_114 : decode cX1_merge 114 = .ok (.iload_n 2, 1) := by decide +kernel
theorem dX1_merge_115 : decode cX1_merge 115 = .ok (.iload_n 2, 1) := by decide +kernel
theorem dX1_merge_116 : decode cX1_merge 116 = .ok (.iconst 1, 1) := by decide +kernel
theorem dX1_merge_117 : decode cX1_merge 117 = .ok (.isub, 1) := by decide +kernel
theorem dX1_merge_118 : decode cX1_merge 118 = .ok (.invokevirtual 81, 3) := by decide +kernel
theorem dX1_merge_121 : decode cX1_merge 121 = .ok (.iinc 2 1, 3) := by decide +kernel
theorem dX1_merge_124 : decode cX1_merge 124 = .ok (.goto (-19), 3) := by decide +kernel
theorem dX1_merge_127 : decode cX1_merge 127 = .ok (.aload_n 0, 1) := by decide +kernel
theorem dX1_merge_128 : decode cX1_merge 128 = .ok (.dup, 1) := by decide +kernel
theorem dX1_merge_129 : decode cX1_merge 129 = .ok (.getfield 13, 3) := by decide +kernel
theorem dX1_merge_132 : decode cX1_merge 132 = .ok (.iconst 1, 1) := by decide +kernel
theorem dX1_merge_133 : decode cX1_merge 133 = .ok (.isub, 1) := by decide +kernel
theorem dX1_merge_134 : decode cX1_merge 134 = .ok (.putfield 13, 3) := by decide +kernel
theorem dX1_merge_137 : decode cX1_merge 137 = .ok (.aload_n 0, 1) := by decide +kernel
theorem dX1_merge_138 : decode cX1_merge 138 = .ok (.getfield 23, 3) := by decide +kernel
theorem dX1_merge_141 : decode cX1_merge 141 = .ok (.aload_n 0, 1) := by decide +kernel
theorem dX1_merge_142 : decode cX1_merge 142 = .ok (.getfield 13, 3) := by decide +kernel
theorem dX1_merge_145 : decode cX1_merge 145 = .ok (.iconst (-1), 1) := by decide +kernel
theorem dX1_merge_146 : decode cX1_merge 146 = .ok (.iastore, 1) := by decide +kernel
theorem dX1_merge_147 : decode cX1_merge 147 = .ok (.aload_n 0, 1) := by decide +kernel
theorem dX1_merge_148 : decode cX1_merge 148 = .ok (.getfield 13, 3) := by decide +kernel
theorem dX1_merge_151 : decode cX1_merge 151 = .ok (.ireturn, 1) := by decide +kernel
set_option maxRecDepth 20000 in
theorem ggX1_many_X1_behind : GoodIn wsX1_many wsX1_behind := goodIn_r _ [7, 8, 1, 14, 15, 16, 17, 18, 19, 20, 21, 22, 23, 24, 25, 26, 27, 28, 29, 30, 31] (by decide +kernel) (by decide +kernel)
set_option maxRecDepth 20000 in
theorem gX1_many_X1_behind : GoodIn wsX1_many (wsV RX1 78 RX1 yX1_behind wsX1_behind) := goodIn_app (goodIn_of _ (by decide +kernel)) ggX1_many_X1_behind
set_option maxRecDepth 20000 in
theorem ggX1_many_X1_isThere : GoodIn wsX1_many wsX1_isThere := goodIn_r _ [12, 13, 14, 15, 16, 17, 18, 19, 20, 21, 22, 23, 24, 25, 26, 27, 28, 29, 30, 31] (by decide +kernel) (by decide +kernel)
set_option maxRecDepth 20000 in
theorem gX1_many_X1_isThere : GoodIn wsX1_many (wsV RX1 62 RX1 yX1_isThere wsX1_isThere) := goodIn_app (goodIn_of _ (by decide +kernel)) ggX1_many_X1_isThere
theorem dX1_many_0 : decode cX1_many 0 = .ok (.iconst 0, 1) := by decide +kernel
theorem dX1_many_1 : decode cX1_many 1 = .ok (.istore_n 3, 1) := by decide +kernel
theorem dX1_many_2 : decode cX1_many 2 = .ok (.aload_n 0, 1) := by decide +kernel
theorem dX1_many_3 : decode cX1_many 3 = .ok (.getfield 17, 3) := by decide +kernel
theorem dX1_many_6 : decode cX1_many 6 = .ok (.iload_n 1, 1) := by decide +kernel
theorem dX1_many_7 : decode cX1_many 7 = .ok (.iaload, 1) := by decide +kernel
theorem dX1_many_8 : decode cX1_many 8 = .ok (.istore 4, 2) := by decide +kernel
theorem dX1_many_10 : decode cX1_many 10 = .ok (.iload 4, 2) := by decide +kernel
theorem dX1_many_12 : decode cX1_many 12 = .ok (.aload_n 0, 1) := by decide +kernel
theorem dX1_many_13 : decode cX1_many 13 = .ok (.iload_n 1, 1) := by decide +kernel
theorem dX1_many_14 : decode cX1_many 14 = .ok (.invokevirtual 78, 3) := by decide +kernel
theorem dX1_many_17 : decode cX1_many 17 = .ok (.if_icmp .ge 40, 3) := by decide +kernel
theorem dX1_many_20 : decode cX1_many 20 = .ok (.iload_n 3, 1) := by decide +kernel
theorem dX1_many_21 : decode cX1_many 21 = .ok (.aload_n 0, 1) := by decide +kernel
theorem dX1_many_22 : decode cX1_many 22 = .ok (.iload 4, 2) := by decide +kernel
theorem dX1_many_24 : decode cX1_many 24 = .ok (.invokevirtual 62, 3) := by decide +kernel
theorem dX1_many_27 : decode cX1_many 27 = .ok (.ifCond .eq 21, 3) := by decide +kernel
theorem dX1_many_30 : decode cX1_many 30 = .ok (.aload_n 0, 1) := by decide +kernel
theorem dX1_many_31 : decode cX1_many 31 = .ok (.getfield 26, 3) := by decide +kernel
theorem dX1_many_34 : decode cX1_many 34 = .ok (.iload 4, 2) := by decide +kernel
theorem dX1_many_36 : decode cX1_many 36 = .ok (.baload, 1) := by decide +kernel
theorem dX1_many_37 : decode cX1_many 37 = .ok (.ifCond .ne 7, 3) := by decide +kernel
theorem dX1_many_40 : decode cX1_many 40 = .ok (.iload_n 2, 1) := by decide +kernel
theorem dX1_many_41 : decode cX1_many 41 = .ok (.ifCond .ne 7, 3) := by decide +kernel
theorem dX1_many_44 : decode cX1_many 44 = .ok (.iconst 1, 1) := by decide +kernel
theorem dX1_many_45 : decode cX1_many 45 = .ok (.goto 4, 3) := by decide +kernel
theorem dX1_many_48 : decode cX1_many 48 = .ok (.iconst 0, 1) := by decide +kernel
theorem dX1_many_49 : decode cX1_many 49 = .ok (.iadd, 1) := by decide +kernel
theorem dX1_many_50 : decode cX1_many 50 = .ok (.istore_n 3, 1) := by decide +kernel
theorem dX1_many_51 : decode cX1_many 51 = .ok (.iinc 4 1, 3) := by decide +kernel
theorem dX1_many_54 : decode cX1_many 54 = .ok (.goto (-44), 3) := by decide +kernel
theorem dX1_many_57 : decode cX1_many 57 = .ok (.iload_n 3, 1) := by decide +kernel
theorem dX1_many_58 : decode cX1_many 58 = .ok (.ireturn, 1) := by decide +kernel
set_option maxRecDepth 20000 in
theorem ggX1_move_X1_isRange : GoodIn wsX1_move wsX1_isRange := goodIn_r _ [10, 11, 12, 13, 9, 14, 31, 32, 33, 34, 35, 36, 37, 38, 39, 40, 41, 42, 43, 44, 45, 46, 47, 48] (by decide +kernel) (by decide +kernel)
set_option maxRecDepth 20000 in
theorem gX1_move_X1_isRange : GoodIn wsX1_move (wsV RX1 85 RX1 yX1_isRange wsX1_isRange) := goodIn_app (goodIn_of _ (by decide +kernel)) ggX1_move_X1_isRange
set_option maxRecDepth 20000 in
theorem ggX1_move_X1_isShard : GoodIn wsX1_move wsX1_isShard := goodIn_r _ [17, 12, 13, 9, 14] (by decide +kernel) (by decide +kernel)
set_option maxRecDepth 20000 in
theorem gX1_move_X1_isShard : GoodIn wsX1_move (va_wsS RX1 71 yX1_isShard wsX1_isShard) := goodIn_app (goodIn_of _ (by decide +kernel)) ggX1_move_X1_isShard
set_option maxRecDepth 20000 in
theorem ggX1_move_X1_behind : GoodIn wsX1_move wsX1_behind := goodIn_r _ [21, 11, 4, 31, 32, 33, 34, 35, 36, 37, 38, 39, 40, 41, 42, 43, 44, 45, 46, 47, 48] (by decide +kernel) (by decide +kernel)
set_option maxRecDepth 20000 in
theorem gX1_move_X1_behind : GoodIn wsX1_move (wsV RX1 78 RX1 yX1_behind wsX1_behind) := goodIn_app (goodIn_of _ (by decide +kernel)) ggX1_move_X1_behind
set_option maxRecDepth 20000 in
theorem ggX1_move_X1_many : GoodIn wsX1_move wsX1_many := goodIn_r _ [25, 4, 5, 18, 19, 20, 9, 21, 11, 26, 27, 28, 29, 30, 31, 32, 33, 34, 35, 36, 37, 38, 39, 40, 41, 42, 43, 44, 45, 46, 47, 48] (by decide +kernel) (by decide +kernel)
set_option maxRecDepth 20000 in
theorem gX1_move_X1_many : GoodIn wsX1_move (wsV RX1 88 RX1 yX1_many wsX1_many) := goodIn_app (goodIn_of _ (by decide +kernel)) ggX1_move_X1_many
theorem dX1_move_0 : decode cX1_move 0 = .ok (.aload_n 0, 1) := by decide +kernel
theorem dX1_move_1 : decode cX1_move 1 = .ok (.aload_n 0, 1) := by decide +kernel
theorem dX1_move_2 : decode cX1_move 2 = .ok (.iload_n 1, 1) := by decide +kernel
theorem dX1_move_3 : decode cX1_move 3 = .ok (.invokevirtual 85, 3) := by decide +kernel
theorem dX1_move_6 : decode cX1_move 6 = .ok (.ifCond .eq 10, 3) := by decide +kernel
theorem dX1_move_9 : decode cX1_move 9 = .ok (.iload_n 2, 1) := by decide +kernel
theorem dX1_move_10 : decode cX1_move 10 = .ok (.invokestatic 71, 3) := by decide +kernel
theorem dX1_move_13 : decode cX1_move 13 = .ok (.ifCond .ne 7, 3) := by decide +kernel
theorem dX1_move_16 : decode cX1_move 16 = .ok (.iconst 1, 1) := by decide +kernel
theorem dX1_move_17 : decode cX1_move 17 = .ok (.goto 28, 3) := by decide +kernel
theorem dX1_move_20 : decode cX1_move 20 = .ok (.aload_n 0, 1) := by decide +kernel
theorem dX1_move_21 : decode cX1_move 21 = .ok (.getfield 23, 3) := by decide +kernel
theorem dX1_move_24 : decode cX1_move 24 = .ok (.iload_n 1, 1) := by decide +kernel
theorem dX1_move_25 : decode cX1_move 25 = .ok (.iaload, 1) := by decide +kernel
theorem dX1_move_26 : decode cX1_move 26 = .ok (.iconst (-1), 1) := by decide +kernel
theorem dX1_move_27 : decode cX1_move 27 = .ok (.if_icmp .ne 13, 3) := by decide +kernel
theorem dX1_move_30 : decode cX1_move 30 = .ok (.aload_n 0, 1) := by decide +kernel
theorem dX1_move_31 : decode cX1_move 31 = .ok (.getfield 20, 3) := by decide +kernel
theorem dX1_move_34 : decode cX1_move 34 = .ok (.iload_n 1, 1) := by decide +kernel
theorem dX1_move_35 : decode cX1_move 35 = .ok (.iaload, 1) := by decide +kernel
theorem dX1_move_36 : decode cX1_move 36 = .ok (.iload_n 2, 1) := by decide +kernel
theorem dX1_move_37 : decode cX1_move 37 = .ok (.if_icmp .ne 7, 3) := by decide +kernel
theorem dX1_move_40 : decode cX1_move 40 = .ok (.iconst 2, 1) := by decide +kernel
theorem dX1_move_41 : decode cX1_move 41 = .ok (.goto 4, 3) := by decide +kernel
theorem dX1_move_44 : decode cX1_move 44 = .ok (.iconst 0, 1) := by decide +kernel
theorem dX1_move_45 : decode cX1_move 45 = .ok (.putfield 51, 3) := by decide +kernel
theorem dX1_move_48 : decode cX1_move 48 = .ok (.aload_n 0, 1) := by decide +kernel
theorem dX1_move_49 : decode cX1_move 49 = .ok (.getfield 51, 3) := by decide +kernel
theorem dX1_move_52 : decode cX1_move 52 = .ok (.ifCond .le 5, 3) := by decide +kernel
theorem dX1_move_55 : decode cX1_move 55 = .ok (.iconst 0, 1) := by decide +kernel
theorem dX1_move_56 : decode cX1_move 56 = .ok (.ireturn, 1) := by decide +kernel
theorem dX1_move_57 : decode cX1_move 57 = .ok (.aload_n 0, 1) := by decide +kernel
theorem dX1_move_58 : decode cX1_move 58 = .ok (.getfield 23, 3) := by decide +kernel
theorem dX1_move_61 : decode cX1_move 61 = .ok (.iload_n 1, 1) := by decide +kernel
theorem dX1_move_62 : decode cX1_move 62 = .ok (.iload_n 2, 1) := by decide +kernel
theorem dX1_move_63 : decode cX1_move 63 = .ok (.iastore, 1) := by decide +kernel
theorem dX1_move_64 : decode cX1_move 64 = .ok (.aload_n 0, 1) := by decide +kernel
theorem dX1_move_65 : decode cX1_move 65 = .ok (.getfield 17, 3) := by decide +kernel
theorem dX1_move_68 : decode cX1_move 68 = .ok (.iload_n 1, 1) := by decide +kernel
theorem dX1_move_69 : decode cX1_move 69 = .ok (.iaload, 1) := by decide +kernel
theorem dX1_move_70 : decode cX1_move 70 = .ok (.istore_n 3, 1) := by decide +kernel
theorem dX1_move_71 : decode cX1_move 71 = .ok (.iload_n 3, 1) := by decide +kernel
theorem dX1_move_72 : decode cX1_move 72 = .ok (.aload_n 0, 1) := by decide +kernel
theorem dX1_move_73 : decode cX1_move 73 = .ok (.iload_n 1, 1) := by decide +kernel
theorem dX1_move_74 : decode cX1_move 74 = .ok (.invokevirtual 78, 3) := by decide +kernel
theorem dX1_move_77 : decode cX1_move 77 = .ok (.if_icmp .ge 16, 3) := by decide +kernel
theorem dX1_move_80 : decode cX1_move 80 = .ok (.aload_n 0, 1) := by decide +kernel
theorem dX1_move_81 : decode cX1_move 81 = .ok (.getfield 26, 3) := by decide +kernel
theorem dX1_move_84 : decode cX1_move 84 = .ok (.iload_n 3, 1) := by decide +kernel
theorem dX1_move_85 : decode cX1_move 85 = .ok (.iconst 0, 1) := by decide +kernel
theorem dX1_move_86 : decode cX1_move 86 = .ok (.bastore, 1) := by decide +kernel
theorem dX1_move_87 : decode cX1_move 87 = .ok (.iinc 3 1, 3) := by decide +kernel
theorem dX1_move_90 : decode cX1_move 90 = .ok (.goto (-19), 3) := by decide +kernel
theorem dX1_move_93 : decode cX1_move 93 = .ok (.aload_n 0, 1) := by decide +kernel
theorem dX1_move_94 : decode cX1_move 94 = .ok (.iload_n 1, 1) := by decide +kernel
theorem dX1_move_95 : decode cX1_move 95 = .ok (.iconst 0, 1) := by decide +kernel
theorem dX1_move_96 : decode cX1_move 96 = .ok (.invokevirtual 88, 3) := by decide +kernel
theorem dX1_move_99 : decode cX1_move 99 = .ok (.ireturn, 1) := by decide +kernel
set_option maxRecDepth 20000 in
theorem ggX1_asksMoved_X1_isRange : GoodIn wsX1_asksMoved wsX1_isRange := goodIn_r _ [7, 8, 9, 10, 6, 11, 12, 13, 14, 15, 16, 17, 18, 19, 20, 21, 22, 23, 24, 25, 26, 27, 28, 29] (by decide +kernel) (by decide +kernel)
set_option maxRecDepth 20000 in
theorem gX1_asksMoved_X1_isRange : GoodIn wsX1_asksMoved (wsV RX1 85 RX1 yX1_isRange wsX1_isRange) := goodIn_app (goodIn_of _ (by decide +kernel)) ggX1_asksMoved_X1_isRange
theorem dX1_asksMoved_0 : decode cX1_asksMoved 0 = .ok (.aload_n 0, 1) := by decide +kernel
theorem dX1_asksMoved_1 : decode cX1_asksMoved 1 = .ok (.aload_n 0, 1) := by decide +kernel
theorem dX1_asksMoved_2 : decode cX1_asksMoved 2 = .ok (.iload_n 1, 1) := by decide +kernel
theorem dX1_asksMoved_3 : decode cX1_asksMoved 3 = .ok (.invokevirtual 85, 3) := by decide +kernel
theorem dX1_asksMoved_6 : decode cX1_asksMoved 6 = .ok (.ifCond .ne 7, 3) := by decide +kernel
theorem dX1_asksMoved_9 : decode cX1_asksMoved 9 = .ok (.iconst 1, 1) := by decide +kernel
theorem dX1_asksMoved_10 : decode cX1_asksMoved 10 = .ok (.goto 18, 3) := by decide +kernel
theorem dX1_asksMoved_13 : decode cX1_asksMoved 13 = .ok (.aload_n 0, 1) := by decide +kernel
theorem dX1_asksMoved_14 : decode cX1_asksMoved 14 = .ok (.getfield 23, 3) := by decide +kernel
theorem dX1_asksMoved_17 : decode cX1_asksMoved 17 = .ok (.iload_n 1, 1) := by decide +kernel
theorem dX1_asksMoved_18 : decode cX1_asksMoved 18 = .ok (.iaload, 1) := by decide +kernel
theorem dX1_asksMoved_19 : decode cX1_asksMoved 19 = .ok (.iconst (-1), 1) := by decide +kernel
theorem dX1_asksMoved_20 : decode cX1_asksMoved 20 = .ok (.if_icmp .ne 7, 3) := by decide +kernel
theorem dX1_asksMoved_23 : decode cX1_asksMoved 23 = .ok (.iconst 2, 1) := by decide +kernel
theorem dX1_asksMoved_24 : decode cX1_asksMoved 24 = .ok (.goto 4, 3) := by decide +kernel
theorem dX1_asksMoved_27 : decode cX1_asksMoved 27 = .ok (.iconst 0, 1) := by decide +kernel
theorem dX1_asksMoved_28 : decode cX1_asksMoved 28 = .ok (.putfield 51, 3) := by decide +kernel
theorem dX1_asksMoved_31 : decode cX1_asksMoved 31 = .ok (.aload_n 0, 1) := by decide +kernel
theorem dX1_asksMoved_32 : decode cX1_asksMoved 32 = .ok (.getfield 51, 3) := by decide +kernel
theorem dX1_asksMoved_35 : decode cX1_asksMoved 35 = .ok (.ifCond .ne 7, 3) := by decide +kernel
theorem dX1_asksMoved_38 : decode cX1_asksMoved 38 = .ok (.iconst 1, 1) := by decide +kernel
theorem dX1_asksMoved_39 : decode cX1_asksMoved 39 = .ok (.goto 4, 3) := by decide +kernel
theorem dX1_asksMoved_42 : decode cX1_asksMoved 42 = .ok (.iconst 0, 1) := by decide +kernel
theorem dX1_asksMoved_43 : decode cX1_asksMoved 43 = .ok (.ireturn, 1) := by decide +kernel
set_option maxRecDepth 20000 in
theorem ggX1_step_X1_asksMoved : GoodIn wsX1_step wsX1_asksMoved := goodIn_r _ [9, 4, 10, 11, 12, 13, 8, 14, 15, 16, 17, 18, 28, 29, 30, 31, 32, 33, 34, 35, 36, 37, 38, 39, 40, 41, 42, 43, 44, 45] (by decide +kernel) (by decide +kernel)
set_option maxRecDepth 20000 in
theorem gX1_step_X1_asksMoved : GoodIn wsX1_step (wsV RX1 92 RX1 yX1_asksMoved wsX1_asksMoved) := goodIn_app (goodIn_of _ (by decide +kernel)) ggX1_step_X1_asksMoved
set_option maxRecDepth 20000 in
theorem ggX1_step_X1_behind : GoodIn wsX1_step wsX1_behind := goodIn_r _ [22, 15, 1, 28, 29, 30, 31, 32, 33, 34, 35, 36, 37, 38, 39, 40, 41, 42, 43, 44, 45] (by decide +kernel) (by decide +kernel)
set_option maxRecDepth 20000 in
theorem gX1_step_X1_behind : GoodIn wsX1_step (wsV RX1 78 RX1 yX1_behind wsX1_behind) := goodIn_app (goodIn_of _ (by decide +kernel)) ggX1_step_X1_behind
set_option maxRecDepth 20000 in
theorem ggX1_step_X1_isThere : GoodIn wsX1_step wsX1_isThere := goodIn_r _ [26, 27, 28, 29, 30, 31, 32, 33, 34, 35, 36, 37, 38, 39, 40, 41, 42, 43, 44, 45] (by decide +kernel) (by decide +kernel)
set_option maxRecDepth 20000 in
theorem gX1_step_X1_isThere : GoodIn wsX1_step (wsV RX1 62 RX1 yX1_isThere wsX1_isThere) := goodIn_app (goodIn_of _ (by decide +kernel)) ggX1_step_X1_isThere
theorem dX1_step_0 : decode cX1_step 0 = .ok (.aload_n 0, 1) := by decide +kernel
theorem dX1_step_1 : decode cX1_step 1 = .ok (.iload_n 1, 1) := by decide +kernel
theorem dX1_step_2 : decode cX1_step 2 = .ok (.invokevirtual 92, 3) := by decide +kernel
theorem dX1_step_5 : decode cX1_step 5 = .ok (.ifCond .ne 5, 3) := by decide +kernel
theorem dX1_step_8 : decode cX1_step 8 = .ok (.iconst 0, 1) := by decide +kernel
theorem dX1_step_9 : decode cX1_step 9 = .ok (.ireturn, 1) := by decide +kernel
theorem dX1_step_10 : decode cX1_step 10 = .ok (.iconst (-1), 1) := by decide +kernel
theorem dX1_step_11 : decode cX1_step 11 = .ok (.istore_n 2, 1) := by decide +kernel
theorem dX1_step_12 : decode cX1_step 12 = .ok (.aload_n 0, 1) := by decide +kernel
theorem dX1_step_13 : decode cX1_step 13 = .ok (.iload_n 1, 1) := by decide +kernel
theorem dX1_step_14 : decode cX1_step 14 = .ok (.invokevirtual 78, 3) := by decide +kernel
theorem dX1_step_17 : decode cX1_step 17 = .ok (.iconst 1, 1) := by decide +kernel
theorem dX1_step_18 : decode cX1_step 18 = .ok (.isub, 1) := by decide +kernel
theorem dX1_step_19 : decode cX1_step 19 = .ok (.istore_n 3, 1) := by decide +kernel
theorem dX1_step_20 : decode cX1_step 20 = .ok (.iload_n 3, 1) := by decide +kernel
theorem dX1_step_21 : decode cX1_step 21 = .ok (.aload_n 0, 1) := by decide +kernel
theorem dX1_step_22 : decode cX1_step 22 = .ok (.getfield 17, 3) := by decide +kernel
theorem dX1_step_25 : decode cX1_step 25 = .ok (.iload_n 1, 1) := by decide +kernel
theorem dX1_step_26 : decode cX1_step 26 = .ok (.iaload, 1) := by decide +kernel
theorem dX1_step_27 : decode cX1_step 27 = .ok (.if_icmp .lt 32, 3) := by decide +kernel
theorem dX1_step_30 : decode cX1_step 30 = .ok (.aload_n 0, 1) := by decide +kernel
theorem dX1_step_31 : decode cX1_step 31 = .ok (.iload_n 3, 1) := by decide +kernel
theorem dX1_step_32 : decode cX1_step 32 = .ok (.invokevirtual 62, 3) := by decide +kernel
theorem dX1_step_35 : decode cX1_step 35 = .ok (.ifCond .eq 16, 3) := by decide +kernel
theorem dX1_step_38 : decode cX1_step 38 = .ok (.aload_n 0, 1) := by decide +kernel
theorem dX1_step_39 : decode cX1_step 39 = .ok (.getfield 26, 3) := by decide +kernel
theorem dX1_step_42 : decode cX1_step 42 = .ok (.iload_n 3, 1) := by decide +kernel
theorem dX1_step_43 : decode cX1_step 43 = .ok (.baload, 1) := by decide +kernel
theorem dX1_step_44 : decode cX1_step 44 = .ok (.ifCond .ne 7, 3) := by decide +kernel
theorem dX1_step_47 : decode cX1_step 47 = .ok (.iload_n 3, 1) := by decide +kernel
theorem dX1_step_48 : decode cX1_step 48 = .ok (.goto 4, 3) := by decide +kernel
theorem dX1_step_51 : decode cX1_step 51 = .ok (.iload_n 2, 1) := by decide +kernel
theorem dX1_step_52 : decode cX1_step 52 = .ok (.istore_n 2, 1) := by decide +kernel
theorem dX1_step_53 : decode cX1_step 53 = .ok (.iinc 3 (-1), 3) := by decide +kernel
theorem dX1_step_56 : decode cX1_step 56 = .ok (.goto (-36), 3) := by decide +kernel
theorem dX1_step_59 : decode cX1_step 59 = .ok (.iload_n 2, 1) := by decide +kernel
theorem dX1_step_60 : decode cX1_step 60 = .ok (.iconst (-1), 1) := by decide +kernel
theorem dX1_step_61 : decode cX1_step 61 = .ok (.if_icmp .ne 25, 3) := by decide +kernel
theorem dX1_step_64 : decode cX1_step 64 = .ok (.aload_n 0, 1) := by decide +kernel
theorem dX1_step_65 : decode cX1_step 65 = .ok (.getfield 20, 3) := by decide +kernel
theorem dX1_step_68 : decode cX1_step 68 = .ok (.iload_n 1, 1) := by decide +kernel
theorem dX1_step_69 : decode cX1_step 69 = .ok (.aload_n 0, 1) := by decide +kernel
theorem dX1_step_70 : decode cX1_step 70 = .ok (.getfield 23, 3) := by decide +kernel
theorem dX1_step_73 : decode cX1_step 73 = .ok (.iload_n 1, 1) := by decide +kernel
theorem dX1_step_74 : decode cX1_step 74 = .ok (.iaload, 1) := by decide +kernel
theorem dX1_step_75 : decode cX1_step 75 = .ok (.iastore, 1) := by decide +kernel
theorem dX1_step_76 : decode cX1_step 76 = .ok (.aload_n 0, 1) := by decide +kernel
theorem dX1_step_77 : decode cX1_step 77 = .ok (.getfield 23, 3) := by decide +kernel
theorem dX1_step_80 : decode cX1_step 80 = .ok (.iload_n 1, 1) := by decide +kernel
theorem dX1_step_81 : decode cX1_step 81 = .ok (.iconst (-1), 1) := by decide +kernel
theorem dX1_step_82 : decode cX1_step 82 = .ok (.iastore, 1) := by decide +kernel
theorem dX1_step_83 : decode cX1_step 83 = .ok (.goto 10, 3) := by decide +kernel
theorem dX1_step_86 : decode cX1_step 86 = .ok (.aload_n 0, 1) := by decide +kernel
theorem dX1_step_87 : decode cX1_step 87 = .ok (.getfield 26, 3) := by decide +kernel
theorem dX1_step_90 : decode cX1_step 90 = .ok (.iload_n 2, 1) := by decide +kernel
theorem dX1_step_91 : decode cX1_step 91 = .ok (.iconst 1, 1) := by decide +kernel
theorem dX1_step_92 : decode cX1_step 92 = .ok (.bastore, 1) := by decide +kernel
theorem dX1_step_93 : decode cX1_step 93 = .ok (.iload_n 2, 1) := by decide +kernel
theorem dX1_step_94 : decode cX1_step 94 = .ok (.ireturn, 1) := by decide +kernel
set_option maxRecDepth 20000 in
theorem ggX1_giveUp_X1_asksMoved : GoodIn wsX1_giveUp wsX1_asksMoved := goodIn_r _ [6, 1, 7, 8, 9, 10, 5, 11, 12, 13, 14, 15, 31, 32, 33, 34, 35, 36, 37, 38, 39, 40, 41, 42, 43, 44, 45, 46, 47, 48] (by decide +kernel) (by decide +kernel)
set_option maxRecDepth 20000 in
theorem gX1_giveUp_X1_asksMoved : GoodIn wsX1_giveUp (wsV RX1 92 RX1 yX1_asksMoved wsX1_asksMoved) := goodIn_app (goodIn_of _ (by decide +kernel)) ggX1_giveUp_X1_asksMoved
set_option maxRecDepth 20000 in
theorem ggX1_giveUp_X1_many : GoodIn wsX1_giveUp wsX1_many := goodIn_r _ [19, 20, 21, 22, 23, 24, 5, 25, 12, 26, 27, 28, 29, 30, 31, 32, 33, 34, 35, 36, 37, 38, 39, 40, 41, 42, 43, 44, 45, 46, 47, 48] (by decide +kernel) (by decide +kernel)
set_option maxRecDepth 20000 in
theorem gX1_giveUp_X1_many : GoodIn wsX1_giveUp (wsV RX1 88 RX1 yX1_many wsX1_many) := goodIn_app (goodIn_of _ (by decide +kernel)) ggX1_giveUp_X1_many
theorem dX1_giveUp_0 : decode cX1_giveUp 0 = .ok (.aload_n 0, 1) := by decide +kernel
theorem dX1_giveUp_1 : decode cX1_giveUp 1 = .ok (.iload_n 1, 1) := by decide +kernel
theorem dX1_giveUp_2 : decode cX1_giveUp 2 = .ok (.invokevirtual 92, 3) := by decide +kernel
theorem dX1_giveUp_5 : decode cX1_giveUp 5 = .ok (.ifCond .ne 5, 3) := by decide +kernel
theorem dX1_giveUp_8 : decode cX1_giveUp 8 = .ok (.iconst 0, 1) := by decide +kernel
theorem dX1_giveUp_9 : decode cX1_giveUp 9 = .ok (.ireturn, 1) := by decide +kernel
theorem dX1_giveUp_10 : decode cX1_giveUp 10 = .ok (.aload_n 0, 1) := by decide +kernel
theorem dX1_giveUp_11 : decode cX1_giveUp 11 = .ok (.getfield 23, 3) := by decide +kernel
theorem dX1_giveUp_14 : decode cX1_giveUp 14 = .ok (.iload_n 1, 1) := by decide +kernel
theorem dX1_giveUp_15 : decode cX1_giveUp 15 = .ok (.iconst (-1), 1) := by decide +kernel
theorem dX1_giveUp_16 : decode cX1_giveUp 16 = .ok (.iastore, 1) := by decide +kernel
theorem dX1_giveUp_17 : decode cX1_giveUp 17 = .ok (.aload_n 0, 1) := by decide +kernel
theorem dX1_giveUp_18 : decode cX1_giveUp 18 = .ok (.iload_n 1, 1) := by decide +kernel
theorem dX1_giveUp_19 : decode cX1_giveUp 19 = .ok (.iconst 1, 1) := by decide +kernel
theorem dX1_giveUp_20 : decode cX1_giveUp 20 = .ok (.invokevirtual 88, 3) := by decide +kernel
theorem dX1_giveUp_23 : decode cX1_giveUp 23 = .ok (.ireturn, 1) := by decide +kernel
theorem dX1_ranges_0 : decode cX1_ranges 0 = .ok (.aload_n 0, 1) := by decide +kernel
theorem dX1_ranges_1 : decode cX1_ranges 1 = .ok (.iconst 0, 1) := by decide +kernel
theorem dX1_ranges_2 : decode cX1_ranges 2 = .ok (.putfield 51, 3) := by decide +kernel
theorem dX1_ranges_5 : decode cX1_ranges 5 = .ok (.aload_n 0, 1) := by decide +kernel
theorem dX1_ranges_6 : decode cX1_ranges 6 = .ok (.getfield 13, 3) := by decide +kernel
theorem dX1_ranges_9 : decode cX1_ranges 9 = .ok (.ireturn, 1) := by decide +kernel
set_option maxRecDepth 20000 in
theorem ggX1_rangeOf_X1_asksKey : GoodIn wsX1_rangeOf wsX1_asksKey := goodIn_r _ [5, 6, 7, 8, 4, 9, 10, 11, 12, 19, 20, 21, 22, 23, 24, 25, 26, 27, 28, 29, 30, 31, 32, 33, 34, 35, 36] (by decide +kernel) (by decide +kernel)
set_option maxRecDepth 20000 in
theorem gX1_rangeOf_X1_asksKey : GoodIn wsX1_rangeOf (wsV RX1 68 RX1 yX1_asksKey wsX1_asksKey) := goodIn_app (goodIn_of _ (by decide +kernel)) ggX1_rangeOf_X1_asksKey
set_option maxRecDepth 20000 in
theorem ggX1_rangeOf_X1_rangeAt : GoodIn wsX1_rangeOf wsX1_rangeAt := goodIn_r _ [16, 17, 18, 19, 20, 21, 22, 23, 24, 25, 26, 27, 28, 29, 30, 31, 32, 33, 34, 35, 36] (by decide +kernel) (by decide +kernel)
set_option maxRecDepth 20000 in
theorem gX1_rangeOf_X1_rangeAt : GoodIn wsX1_rangeOf (wsV RX1 74 RX1 yX1_rangeAt wsX1_rangeAt) := goodIn_app (goodIn_of _ (by decide +kernel)) ggX1_rangeOf_X1_rangeAt
theorem dX1_rangeOf_0 : decode cX1_rangeOf 0 = .ok (.aload_n 0, 1) := by decide +kernel
theorem dX1_rangeOf_1 : decode cX1_rangeOf 1 = .ok (.iload_n 1, 1) := by decide +kernel
theorem dX1_rangeOf_2 : decode cX1_rangeOf 2 = .ok (.invokevirtual 68, 3) := by decide +kernel
theorem dX1_rangeOf_5 : decode cX1_rangeOf 5 = .ok (.ifCond .eq 11, 3) := by decide +kernel
theorem dX1_rangeOf_8 : decode cX1_rangeOf 8 = .ok (.aload_n 0, 1) := by decide +kernel
theorem dX1_rangeOf_9 : decode cX1_rangeOf 9 = .ok (.iload_n 1, 1) := by decide +kernel
theorem dX1_rangeOf_10 : decode cX1_rangeOf 10 = .ok (.invokevirtual 74, 3) := by decide +kernel
theorem dX1_rangeOf_13 : decode cX1_rangeOf 13 = .ok (.goto 4, 3) := by decide +kernel
theorem dX1_rangeOf_16 : decode cX1_rangeOf 16 = .ok (.iconst 0, 1) := by decide +kernel
theorem dX1_rangeOf_17 : decode cX1_rangeOf 17 = .ok (.ireturn, 1) := by decide +kernel
set_option maxRecDepth 20000 in
theorem ggX1_shardOf_X1_isRange : GoodIn wsX1_shardOf wsX1_isRange := goodIn_r _ [7, 8, 9, 10, 6, 11, 12, 13, 14, 15, 16, 17, 18, 19, 20, 21, 22, 23, 24, 25, 26, 27, 28, 29] (by decide +kernel) (by decide +kernel)
set_option maxRecDepth 20000 in
theorem gX1_shardOf_X1_isRange : GoodIn wsX1_shardOf (wsV RX1 85 RX1 yX1_isRange wsX1_isRange) := goodIn_app (goodIn_of _ (by decide +kernel)) ggX1_shardOf_X1_isRange
theorem dX1_shardOf_0 : decode cX1_shardOf 0 = .ok (.aload_n 0, 1) := by decide +kernel
theorem dX1_shardOf_1 : decode cX1_shardOf 1 = .ok (.aload_n 0, 1) := by decide +kernel
theorem dX1_shardOf_2 : decode cX1_shardOf 2 = .ok (.iload_n 1, 1) := by decide +kernel
theorem dX1_shardOf_3 : decode cX1_shardOf 3 = .ok (.invokevirtual 85, 3) := by decide +kernel
theorem dX1_shardOf_6 : decode cX1_shardOf 6 = .ok (.ifCond .eq 7, 3) := by decide +kernel
theorem dX1_shardOf_9 : decode cX1_shardOf 9 = .ok (.iconst 0, 1) := by decide +kernel
theorem dX1_shardOf_10 : decode cX1_shardOf 10 = .ok (.goto 4, 3) := by decide +kernel
theorem dX1_shardOf_13 : decode cX1_shardOf 13 = .ok (.iconst 1, 1) := by decide +kernel
theorem dX1_shardOf_14 : decode cX1_shardOf 14 = .ok (.putfield 51, 3) := by decide +kernel
theorem dX1_shardOf_17 : decode cX1_shardOf 17 = .ok (.aload_n 0, 1) := by decide +kernel
theorem dX1_shardOf_18 : decode cX1_shardOf 18 = .ok (.getfield 51, 3) := by decide +kernel
theorem dX1_shardOf_21 : decode cX1_shardOf 21 = .ok (.ifCond .le 7, 3) := by decide +kernel
theorem dX1_shardOf_24 : decode cX1_shardOf 24 = .ok (.iconst 0, 1) := by decide +kernel
theorem dX1_shardOf_25 : decode cX1_shardOf 25 = .ok (.goto 9, 3) := by decide +kernel
theorem dX1_shardOf_28 : decode cX1_shardOf 28 = .ok (.aload_n 0, 1) := by decide +kernel
theorem dX1_shardOf_29 : decode cX1_shardOf 29 = .ok (.getfield 20, 3) := by decide +kernel
theorem dX1_shardOf_32 : decode cX1_shardOf 32 = .ok (.iload_n 1, 1) := by decide +kernel
theorem dX1_shardOf_33 : decode cX1_shardOf 33 = .ok (.iaload, 1) := by decide +kernel
theorem dX1_shardOf_34 : decode cX1_shardOf 34 = .ok (.ireturn, 1) := by decide +kernel
set_option maxRecDepth 20000 in
theorem ggX1_rows_X1_isShard : GoodIn wsX1_rows wsX1_isShard := goodIn_r _ [8, 9, 10, 7, 11] (by decide +kernel) (by decide +kernel)
set_option maxRecDepth 20000 in
theorem gX1_rows_X1_isShard : GoodIn wsX1_rows (va_wsS RX1 71 yX1_isShard wsX1_isShard) := goodIn_app (goodIn_of _ (by decide +kernel)) ggX1_rows_X1_isShard
set_option maxRecDepth 20000 in
theorem ggX1_rows_X1_many : GoodIn wsX1_rows wsX1_many := goodIn_r _ [15, 16, 17, 18, 19, 20, 7, 21, 2, 22, 23, 24, 25, 26, 27, 28, 29, 30, 31, 32, 33, 34, 35, 36, 37, 38, 39, 40, 41, 42, 43, 44] (by decide +kernel) (by decide +kernel)
set_option maxRecDepth 20000 in
theorem gX1_rows_X1_many : GoodIn wsX1_rows (wsV RX1 88 RX1 yX1_many wsX1_many) := goodIn_app (goodIn_of _ (by decide +kernel)) ggX1_rows_X1_many
theorem dX1_rows_0 : decode cX1_rows 0 = .ok (.aload_n 0, 1) := by decide +kernel
theorem dX1_rows_1 : decode cX1_rows 1 = .ok (.iload_n 1, 1) := by decide +kernel
theorem dX1_rows_2 : decode cX1_rows 2 = .ok (.invokestatic 71, 3) := by decide +kernel
theorem dX1_rows_5 : decode cX1_rows 5 = .ok (.ifCond .eq 7, 3) := by decide +kernel
theorem dX1_rows_8 : decode cX1_rows 8 = .ok (.iconst 0, 1) := by decide +kernel
theorem dX1_rows_9 : decode cX1_rows 9 = .ok (.goto 4, 3) := by decide +kernel
theorem dX1_rows_12 : decode cX1_rows 12 = .ok (.iconst 1, 1) := by decide +kernel
theorem dX1_rows_13 : decode cX1_rows 13 = .ok (.putfield 51, 3) := by decide +kernel
theorem dX1_rows_16 : decode cX1_rows 16 = .ok (.iconst 0, 1) := by decide +kernel
theorem dX1_rows_17 : decode cX1_rows 17 = .ok (.istore_n 2, 1) := by decide +kernel
theorem dX1_rows_18 : decode cX1_rows 18 = .ok (.iconst 0, 1) := by decide +kernel
theorem dX1_rows_19 : decode cX1_rows 19 = .ok (.istore_n 3, 1) := by decide +kernel
theorem dX1_rows_20 : decode cX1_rows 20 = .ok (.iload_n 3, 1) := by decide +kernel
theorem dX1_rows_21 : decode cX1_rows 21 = .ok (.aload_n 0, 1) := by decide +kernel
theorem dX1_rows_22 : decode cX1_rows 22 = .ok (.getfield 13, 3) := by decide +kernel
theorem dX1_rows_25 : decode cX1_rows 25 = .ok (.if_icmp .ge 58, 3) := by decide +kernel
theorem dX1_rows_28 : decode cX1_rows 28 = .ok (.aload_n 0, 1) := by decide +kernel
theorem dX1_rows_29 : decode cX1_rows 29 = .ok (.getfield 51, 3) := by decide +kernel
theorem dX1_rows_32 : decode cX1_rows 32 = .ok (.ifCond .ne 51, 3) := by decide +kernel
theorem dX1_rows_35 : decode cX1_rows 35 = .ok (.iload_n 2, 1) := by decide +kernel
theorem dX1_rows_36 : decode cX1_rows 36 = .ok (.aload_n 0, 1) := by decide +kernel
theorem dX1_rows_37 : decode cX1_rows 37 = .ok (.getfield 20, 3) := by decide +kernel
theorem dX1_rows_40 : decode cX1_rows 40 = .ok (.iload_n 3, 1) := by decide +kernel
theorem dX1_rows_41 : decode cX1_rows 41 = .ok (.iaload, 1) := by decide +kernel
theorem dX1_rows_42 : decode cX1_rows 42 = .ok (.iload_n 1, 1) := by decide +kernel
theorem dX1_rows_43 : decode cX1_rows 43 = .ok (.if_icmp .ne 12, 3) := by decide +kernel
theorem dX1_rows_46 : decode cX1_rows 46 = .ok (.aload_n 0, 1) := by decide +kernel
theorem dX1_rows_47 : decode cX1_rows 47 = .ok (.iload_n 3, 1) := by decide +kernel
theorem dX1_rows_48 : decode cX1_rows 48 = .ok (.iconst 0, 1) := by decide +kernel
theorem dX1_rows_49 : decode cX1_rows 49 = .ok (.invokevirtual 88, 3) := by decide +kernel
theorem dX1_rows_52 : decode cX1_rows 52 = .ok (.goto 23, 3) := by decide +kernel
theorem dX1_rows_55 : decode cX1_rows 55 = .ok (.aload_n 0, 1) := by decide +kernel
theorem dX1_rows_56 : decode cX1_rows 56 = .ok (.getfield 23, 3) := by decide +kernel
theorem dX1_rows_59 : decode cX1_rows 59 = .ok (.iload_n 3, 1) := by decide +kernel
theorem dX1_rows_60 : decode cX1_rows 60 = .ok (.iaload, 1) := by decide +kernel
theorem dX1_rows_61 : decode cX1_rows 61 = .ok (.iload_n 1, 1) := by decide +kernel
theorem dX1_rows_62 : decode cX1_rows 62 = .ok (.if_icmp .ne 12, 3) := by decide +kernel
theorem dX1_rows_65 : decode cX1_rows 65 = .ok (.aload_n 0, 1) := by decide +kernel
theorem dX1_rows_66 : decode cX1_rows 66 = .ok (.iload_n 3, 1) := by decide +kernel
theorem dX1_rows_67 : decode cX1_rows 67 = .ok (.iconst 1, 1) := by decide +kernel
theorem dX1_rows_68 : decode cX1_rows 68 = .ok (.invokevirtual 88, 3) := by decide +kernel
theorem dX1_rows_71 : decode cX1_rows 71 = .ok (.goto 4, 3) := by decide +kernel
theorem dX1_rows_74 : decode cX1_rows 74 = .ok (.iconst 0, 1) := by decide +kernel
theorem dX1_rows_75 : decode cX1_rows 75 = .ok (.iadd, 1) := by decide +kernel
theorem dX1_rows_76 : decode cX1_rows 76 = .ok (.istore_n 2, 1) := by decide +kernel
theorem dX1_rows_77 : decode cX1_rows 77 = .ok (.iinc 3 1, 3) := by decide +kernel
theorem dX1_rows_80 : decode cX1_rows 80 = .ok (.goto (-60), 3) := by decide +kernel
theorem dX1_rows_83 : decode cX1_rows 83 = .ok (.iload_n 2, 1) := by decide +kernel
theorem dX1_rows_84 : decode cX1_rows 84 = .ok (.ireturn, 1) := by decide +kernel
set_option maxRecDepth 20000 in
theorem ggX1_fix_X1_isThere : GoodIn wsX1_fix wsX1_isThere := goodIn_r _ [12, 5, 13, 14, 15, 16, 17, 18, 19, 20, 21, 22, 23, 24, 25, 26, 27, 28, 29, 30] (by decide +kernel) (by decide +kernel)
set_option maxRecDepth 20000 in
theorem gX1_fix_X1_isThere : GoodIn wsX1_fix (wsV RX1 62 RX1 yX1_isThere wsX1_isThere) := goodIn_app (goodIn_of _ (by decide +kernel)) ggX1_fix_X1_isThere
theorem dX1_fix_0 : decode cX1_fix 0 = .ok (.aload_n 0, 1) := by decide +kernel
theorem dX1_fix_1 : decode cX1_fix 1 = .ok (.aload_n 0, 1) := by decide +kernel
theorem dX1_fix_2 : decode cX1_fix 2 = .ok (.getfield 95, 3) := by decide +kernel
theorem dX1_fix_5 : decode cX1_fix 5 = .ok (.ifCond .eq 7, 3) := by decide +kernel
theorem dX1_fix_8 : decode cX1_fix 8 = .ok (.iconst 1, 1) := by decide +kernel
theorem dX1_fix_9 : decode cX1_fix 9 = .ok (.goto 4, 3) := by decide +kernel
theorem dX1_fix_12 : decode cX1_fix 12 = .ok (.iconst 0, 1) := by decide +kernel
theorem dX1_fix_13 : decode cX1_fix 13 = .ok (.putfield 51, 3) := by decide +kernel
theorem dX1_fix_16 : decode cX1_fix 16 = .ok (.aload_n 0, 1) := by decide +kernel
theorem dX1_fix_17 : decode cX1_fix 17 = .ok (.getfield 51, 3) := by decide +kernel
theorem dX1_fix_20 : decode cX1_fix 20 = .ok (.ifCond .le 5, 3) := by decide +kernel
theorem dX1_fix_23 : decode cX1_fix 23 = .ok (.iconst 0, 1) := by decide +kernel
theorem dX1_fix_24 : decode cX1_fix 24 = .ok (.ireturn, 1) := by decide +kernel
theorem dX1_fix_25 : decode cX1_fix 25 = .ok (.aload_n 0, 1) := by decide +kernel
theorem dX1_fix_26 : decode cX1_fix 26 = .ok (.iconst 1, 1) := by decide +kernel
theorem dX1_fix_27 : decode cX1_fix 27 = .ok (.putfield 95, 3) := by decide +kernel
theorem dX1_fix_30 : decode cX1_fix 30 = .ok (.aload_n 0, 1) := by decide +kernel
theorem dX1_fix_31 : decode cX1_fix 31 = .ok (.dup, 1) := by decide +kernel
theorem dX1_fix_32 : decode cX1_fix 32 = .ok (.getfield 99, 3) := by decide +kernel
theorem dX1_fix_35 : decode cX1_fix 35 = .ok (.iconst 1, 1) := by decide +kernel
theorem dX1_fix_36 : decode cX1_fix 36 = .ok (.iadd, 1) := by decide +kernel
theorem dX1_fix_37 : decode cX1_fix 37 = .ok (.putfield 99, 3) := by decide +kernel
theorem dX1_fix_40 : decode cX1_fix 40 = .ok (.iconst 0, 1) := by decide +kernel
theorem dX1_fix_41 : decode cX1_fix 41 = .ok (.istore_n 1, 1) := by decide +kernel
theorem dX1_fix_42 : decode cX1_fix 42 = .ok (.iload_n 1, 1) := by decide +kernel
theorem dX1_fix_43 : decode cX1_fix 43 = .ok (.bipush 100, 2) := by decide +kernel
theorem dX1_fix_45 : decode cX1_fix 45 = .ok (.if_icmp .ge 47, 3) := by decide +kernel
theorem dX1_fix_48 : decode cX1_fix 48 = .ok (.aload_n 0, 1) := by decide +kernel
theorem dX1_fix_49 : decode cX1_fix 49 = .ok (.getfield 30, 3) := by decide +kernel
theorem dX1_fix_52 : decode cX1_fix 52 = .ok (.iload_n 1, 1) := by decide +kernel
theorem dX1_fix_53 : decode cX1_fix 53 = .ok (.aload_n 0, 1) := by decide +kernel
theorem dX1_fix_54 : decode cX1_fix 54 = .ok (.iload_n 1, 1) := by decide +kernel
theorem dX1_fix_55 : decode cX1_fix 55 = .ok (.invokevirtual 62, 3) := by decide +kernel
theorem dX1_fix_58 : decode cX1_fix 58 = .ok (.ifCond .eq 19, 3) := by decide +kernel
theorem dX1_fix_61 : decode cX1_fix 61 = .ok (.aload_n 0, 1) := by decide +kernel
theorem dX1_fix_62 : decode cX1_fix 62 = .ok (.getfield 7, 3) := by decide +kernel
theorem dX1_fix_65 : decode cX1_fix 65 = .ok (.iload_n 1, 1) := by decide +kernel
theorem dX1_fix_66 : decode cX1_fix 66 = .ok (.iaload, 1) := by decide +kernel
theorem dX1_fix_67 : decode cX1_fix 67 = .ok (.iconst 1, 1) := by decide +kernel
theorem dX1_fix_68 : decode cX1_fix 68 = .ok (.isub, 1) := by decide +kernel
theorem dX1_fix_69 : decode cX1_fix 69 = .ok (.bipush 10, 2) := by decide +kernel
theorem dX1_fix_71 : decode cX1_fix 71 = .ok (.idiv, 1) := by decide +kernel
theorem dX1_fix_72 : decode cX1_fix 72 = .ok (.iconst 1, 1) := by decide +kernel
theorem dX1_fix_73 : decode cX1_fix 73 = .ok (.iadd, 1) := by decide +kernel
theorem dX1_fix_74 : decode cX1_fix 74 = .ok (.goto 4, 3) := by decide +kernel
theorem dX1_fix_77 : decode cX1_fix 77 = .ok (.iconst 0, 1) := by decide +kernel
theorem dX1_fix_78 : decode cX1_fix 78 = .ok (.iastore, 1) := by decide +kernel
theorem dX1_fix_79 : decode cX1_fix 79 = .ok (.aload_n 0, 1) := by decide +kernel
theorem dX1_fix_80 : decode cX1_fix 80 = .ok (.getfield 33, 3) := by decide +kernel
theorem dX1_fix_83 : decode cX1_fix 83 = .ok (.iload_n 1, 1) := by decide +kernel
theorem dX1_fix_84 : decode cX1_fix 84 = .ok (.iconst 0, 1) := by decide +kernel
theorem dX1_fix_85 : decode cX1_fix 85 = .ok (.iastore, 1) := by decide +kernel
theorem dX1_fix_86 : decode cX1_fix 86 = .ok (.iinc 1 1, 3) := by decide +kernel
theorem dX1_fix_89 : decode cX1_fix 89 = .ok (.goto (-47), 3) := by decide +kernel
theorem dX1_fix_92 : decode cX1_fix 92 = .ok (.aload_n 0, 1) := by decide +kernel
theorem dX1_fix_93 : decode cX1_fix 93 = .ok (.getfield 65, 3) := by decide +kernel
theorem dX1_fix_96 : decode cX1_fix 96 = .ok (.ireturn, 1) := by decide +kernel
set_option maxRecDepth 20000 in
theorem ggX1_onRoll_X1_asksKey : GoodIn wsX1_onRoll wsX1_asksKey := goodIn_r _ [7, 8, 9, 10, 6, 11, 12, 13, 14, 15, 16, 17, 18, 19, 20, 21, 22, 23, 24, 25, 26, 27, 28, 29, 30, 31, 32] (by decide +kernel) (by decide +kernel)
set_option maxRecDepth 20000 in
theorem gX1_onRoll_X1_asksKey : GoodIn wsX1_onRoll (wsV RX1 68 RX1 yX1_asksKey wsX1_asksKey) := goodIn_app (goodIn_of _ (by decide +kernel)) ggX1_onRoll_X1_asksKey
theorem dX1_onRoll_0 : decode cX1_onRoll 0 = .ok (.aload_n 0, 1) := by decide +kernel
theorem dX1_onRoll_1 : decode cX1_onRoll 1 = .ok (.iload_n 1, 1) := by decide +kernel
theorem dX1_onRoll_2 : decode cX1_onRoll 2 = .ok (.invokevirtual 68, 3) := by decide +kernel
theorem dX1_onRoll_5 : decode cX1_onRoll 5 = .ok (.ifCond .ne 7, 3) := by decide +kernel
theorem dX1_onRoll_8 : decode cX1_onRoll 8 = .ok (.iconst 0, 1) := by decide +kernel
theorem dX1_onRoll_9 : decode cX1_onRoll 9 = .ok (.goto 22, 3) := by decide +kernel
theorem dX1_onRoll_12 : decode cX1_onRoll 12 = .ok (.aload_n 0, 1) := by decide +kernel
theorem dX1_onRoll_13 : decode cX1_onRoll 13 = .ok (.getfield 95, 3) := by decide +kernel
theorem dX1_onRoll_16 : decode cX1_onRoll 16 = .ok (.ifCond .eq 14, 3) := by decide +kernel
theorem dX1_onRoll_19 : decode cX1_onRoll 19 = .ok (.aload_n 0, 1) := by decide +kernel
theorem dX1_onRoll_20 : decode cX1_onRoll 20 = .ok (.getfield 30, 3) := by decide +kernel
theorem dX1_onRoll_23 : decode cX1_onRoll 23 = .ok (.iload_n 1, 1) := by decide +kernel
theorem dX1_onRoll_24 : decode cX1_onRoll 24 = .ok (.iaload, 1) := by decide +kernel
theorem dX1_onRoll_25 : decode cX1_onRoll 25 = .ok (.iconst 1, 1) := by decide +kernel
theorem dX1_onRoll_26 : decode cX1_onRoll 26 = .ok (.isub, 1) := by decide +kernel
theorem dX1_onRoll_27 : decode cX1_onRoll 27 = .ok (.goto 4, 3) := by decide +kernel
theorem dX1_onRoll_30 : decode cX1_onRoll 30 = .ok (.iconst (-1), 1) := by decide +kernel
theorem dX1_onRoll_31 : decode cX1_onRoll 31 = .ok (.ireturn, 1) := by decide +kernel
set_option maxRecDepth 20000 in
theorem ggX1_send_X1_isKey : GoodIn wsX1_send wsX1_isKey := goodIn_r _ [15, 16, 17, 14, 18] (by decide +kernel) (by decide +kernel)
set_option maxRecDepth 20000 in
theorem gX1_send_X1_isKey : GoodIn wsX1_send (va_wsS RX1 58 yX1_isKey wsX1_isKey) := goodIn_app (goodIn_of _ (by decide +kernel)) ggX1_send_X1_isKey
set_option maxRecDepth 20000 in
theorem ggX1_send_X1_isThere : GoodIn wsX1_send wsX1_isThere := goodIn_r _ [22, 8, 23, 24, 25, 26, 27, 28, 29, 30, 31, 32, 33, 34, 35, 36, 37, 38, 39, 40] (by decide +kernel) (by decide +kernel)
set_option maxRecDepth 20000 in
theorem gX1_send_X1_isThere : GoodIn wsX1_send (wsV RX1 62 RX1 yX1_isThere wsX1_isThere) := goodIn_app (goodIn_of _ (by decide +kernel)) ggX1_send_X1_isThere
theorem dX1_send_0 : decode cX1_send 0 = .ok (.aload_n 0, 1) := by decide +kernel
theorem dX1_send_1 : decode cX1_send 1 = .ok (.iload_n 1, 1) := by decide +kernel
theorem dX1_send_2 : decode cX1_send 2 = .ok (.invokestatic 58, 3) := by decide +kernel
theorem dX1_send_5 : decode cX1_send 5 = .ok (.ifCond .eq 7, 3) := by decide +kernel
theorem dX1_send_8 : decode cX1_send 8 = .ok (.iconst 0, 1) := by decide +kernel
theorem dX1_send_9 : decode cX1_send 9 = .ok (.goto 4, 3) := by decide +kernel
theorem dX1_send_12 : decode cX1_send 12 = .ok (.iconst 1, 1) := by decide +kernel
theorem dX1_send_13 : decode cX1_send 13 = .ok (.putfield 51, 3) := by decide +kernel
theorem dX1_send_16 : decode cX1_send 16 = .ok (.aload_n 0, 1) := by decide +kernel
theorem dX1_send_17 : decode cX1_send 17 = .ok (.getfield 51, 3) := by decide +kernel
theorem dX1_send_20 : decode cX1_send 20 = .ok (.ifCond .ne 81, 3) := by decide +kernel
theorem dX1_send_23 : decode cX1_send 23 = .ok (.aload_n 0, 1) := by decide +kernel
theorem dX1_send_24 : decode cX1_send 24 = .ok (.getfield 95, 3) := by decide +kernel
theorem dX1_send_27 : decode cX1_send 27 = .ok (.ifCond .eq 33, 3) := by decide +kernel
theorem dX1_send_30 : decode cX1_send 30 = .ok (.aload_n 0, 1) := by decide +kernel
theorem dX1_send_31 : decode cX1_send 31 = .ok (.getfield 30, 3) := by decide +kernel
theorem dX1_send_34 : decode cX1_send 34 = .ok (.iload_n 1, 1) := by decide +kernel
theorem dX1_send_35 : decode cX1_send 35 = .ok (.iaload, 1) := by decide +kernel
theorem dX1_send_36 : decode cX1_send 36 = .ok (.ifCond .le 24, 3) := by decide +kernel
theorem dX1_send_39 : decode cX1_send 39 = .ok (.aload_n 0, 1) := by decide +kernel
theorem dX1_send_40 : decode cX1_send 40 = .ok (.iload_n 1, 1) := by decide +kernel
theorem dX1_send_41 : decode cX1_send 41 = .ok (.invokevirtual 62, 3) := by decide +kernel
theorem dX1_send_44 : decode cX1_send 44 = .ok (.ifCond .eq 16, 3) := by decide +kernel
theorem dX1_send_47 : decode cX1_send 47 = .ok (.aload_n 0, 1) := by decide +kernel
theorem dX1_send_48 : decode cX1_send 48 = .ok (.getfield 102, 3) := by decide +kernel
theorem dX1_send_51 : decode cX1_send 51 = .ok (.bipush 60, 2) := by decide +kernel
theorem dX1_send_53 : decode cX1_send 53 = .ok (.if_icmp .ge 7, 3) := by decide +kernel
theorem dX1_send_56 : decode cX1_send 56 = .ok (.iconst 1, 1) := by decide +kernel
theorem dX1_send_57 : decode cX1_send 57 = .ok (.goto 4, 3) := by decide +kernel
theorem dX1_send_60 : decode cX1_send 60 = .ok (.iconst 0, 1) := by decide +kernel
theorem dX1_send_61 : decode cX1_send 61 = .ok (.istore_n 2, 1) := by decide +kernel
theorem dX1_send_62 : decode cX1_send 62 = .ok (.aload_n 0, 1) := by decide +kernel
theorem dX1_send_63 : decode cX1_send 63 = .ok (.iload_n 2, 1) := by decide +kernel
theorem dX1_send_64 : decode cX1_send 64 = .ok (.ifCond .eq 29, 3) := by decide +kernel
theorem dX1_send_67 : decode cX1_send 67 = .ok (.aload_n 0, 1) := by decide +kernel
theorem dX1_send_68 : decode cX1_send 68 = .ok (.getfield 33, 3) := by decide +kernel
theorem dX1_send_71 : decode cX1_send 71 = .ok (.iload_n 1, 1) := by decide +kernel
theorem dX1_send_72 : decode cX1_send 72 = .ok (.iaload, 1) := by decide +kernel
theorem dX1_send_73 : decode cX1_send 73 = .ok (.ifCond .le 24, 3) := by decide +kernel
theorem dX1_send_76 : decode cX1_send 76 = .ok (.aload_n 0, 1) := by decide +kernel
theorem dX1_send_77 : decode cX1_send 77 = .ok (.getfield 39, 3) := by decide +kernel
theorem dX1_send_80 : decode cX1_send 80 = .ok (.aload_n 0, 1) := by decide +kernel
theorem dX1_send_81 : decode cX1_send 81 = .ok (.getfield 33, 3) := by decide +kernel
theorem dX1_send_84 : decode cX1_send 84 = .ok (.iload_n 1, 1) := by decide +kernel
theorem dX1_send_85 : decode cX1_send 85 = .ok (.iaload, 1) := by decide +kernel
theorem dX1_send_86 : decode cX1_send 86 = .ok (.iconst 1, 1) := by decide +kernel
theorem dX1_send_87 : decode cX1_send 87 = .ok (.isub, 1) := by decide +kernel
theorem dX1_send_88 : decode cX1_send 88 = .ok (.iaload, 1) := by decide +kernel
theorem dX1_send_89 : decode cX1_send 89 = .ok (.iconst 2, 1) := by decide +kernel
theorem dX1_send_90 : decode cX1_send 90 = .ok (.if_icmp .ne 7, 3) := by decide +kernel
theorem dX1_send_93 : decode cX1_send 93 = .ok (.iconst 2, 1) := by decide +kernel
theorem dX1_send_94 : decode cX1_send 94 = .ok (.goto 4, 3) := by decide +kernel
theorem dX1_send_97 : decode cX1_send 97 = .ok (.iconst 0, 1) := by decide +kernel
theorem dX1_send_98 : decode cX1_send 98 = .ok (.putfield 51, 3) := by decide +kernel
theorem dX1_send_101 : decode cX1_send 101 = .ok (.aload_n 0, 1) := by decide +kernel
theorem dX1_send_102 : decode cX1_send 102 = .ok (.getfield 51, 3) := by decide +kernel
theorem dX1_send_105 : decode cX1_send 105 = .ok (.ifCond .le 5, 3) := by decide +kernel
theorem dX1_send_108 : decode cX1_send 108 = .ok (.iconst 0, 1) := by decide +kernel
theorem dX1_send_109 : decode cX1_send 109 = .ok (.ireturn, 1) := by decide +kernel
theorem dX1_send_110 : decode cX1_send 110 = .ok (.aload_n 0, 1) := by decide +kernel
theorem dX1_send_111 : decode cX1_send 111 = .ok (.getfield 33, 3) := by decide +kernel
theorem dX1_send_114 : decode cX1_send 114 = .ok (.iload_n 1, 1) := by decide +kernel
theorem dX1_send_115 : decode cX1_send 115 = .ok (.iaload, 1) := by decide +kernel
theorem dX1_send_116 : decode cX1_send 116 = .ok (.ifCond .le 17, 3) := by decide +kernel
theorem dX1_send_119 : decode cX1_send 119 = .ok (.aload_n 0, 1) := by decide +kernel
theorem dX1_send_120 : decode cX1_send 120 = .ok (.getfield 39, 3) := by decide +kernel
theorem dX1_send_123 : decode cX1_send 123 = .ok (.aload_n 0, 1) := by decide +kernel
theorem dX1_send_124 : decode cX1_send 124 = .ok (.getfield 33, 3) := by decide +kernel
theorem dX1_send_127 : decode cX1_send 127 = .ok (.iload_n 1, 1) := by decide +kernel
theorem dX1_send_128 : decode cX1_send 128 = .ok (.iaload, 1) := by decide +kernel
theorem dX1_send_129 : decode cX1_send 129 = .ok (.iconst 1, 1) := by decide +kernel
theorem dX1_send_130 : decode cX1_send 130 = .ok (.isub, 1) := by decide +kernel
theorem dX1_send_131 : decode cX1_send 131 = .ok (.iconst 1, 1) := by decide +kernel
theorem dX1_send_132 : decode cX1_send 132 = .ok (.iastore, 1) := by decide +kernel
theorem dX1_send_133 : decode cX1_send 133 = .ok (.aload_n 0, 1) := by decide +kernel
theorem dX1_send_134 : decode cX1_send 134 = .ok (.getfield 36, 3) := by decide +kernel
theorem dX1_send_137 : decode cX1_send 137 = .ok (.aload_n 0, 1) := by decide +kernel
theorem dX1_send_138 : decode cX1_send 138 = .ok (.getfield 102, 3) := by decide +kernel
theorem dX1_send_141 : decode cX1_send 141 = .ok (.aload_n 0, 1) := by decide +kernel
theorem dX1_send_142 : decode cX1_send 142 = .ok (.getfield 7, 3) := by decide +kernel
theorem dX1_send_145 : decode cX1_send 145 = .ok (.iload_n 1, 1) := by decide +kernel
theorem dX1_send_146 : decode cX1_send 146 = .ok (.iaload, 1) := by decide +kernel
theorem dX1_send_147 : decode cX1_send 147 = .ok (.iconst 1, 1) := by decide +kernel
theorem dX1_send_148 : decode cX1_send 148 = .ok (.isub, 1) := by decide +kernel
theorem dX1_send_149 : decode cX1_send 149 = .ok (.iastore, 1) := by decide +kernel
theorem dX1_send_150 : decode cX1_send 150 = .ok (.aload_n 0, 1) := by decide +kernel
theorem dX1_send_151 : decode cX1_send 151 = .ok (.getfield 39, 3) := by decide +kernel
theorem dX1_send_154 : decode cX1_send 154 = .ok (.aload_n 0, 1) := by decide +kernel
theorem dX1_send_155 : decode cX1_send 155 = .ok (.getfield 102, 3) := by decide +kernel
theorem dX1_send_158 : decode cX1_send 158 = .ok (.iconst 0, 1) := by decide +kernel
theorem dX1_send_159 : decode cX1_send 159 = .ok (.iastore, 1) := by decide +kernel
theorem dX1_send_160 : decode cX1_send 160 = .ok (.aload_n 0, 1) := by decide +kernel
theorem dX1_send_161 : decode cX1_send 161 = .ok (.getfield 42, 3) := by decide +kernel
theorem dX1_send_164 : decode cX1_send 164 = .ok (.aload_n 0, 1) := by decide +kernel
theorem dX1_send_165 : decode cX1_send 165 = .ok (.getfield 102, 3) := by decide +kernel
theorem dX1_send_168 : decode cX1_send 168 = .ok (.aload_n 0, 1) := by decide +kernel
theorem dX1_send_169 : decode cX1_send 169 = .ok (.getfield 99, 3) := by decide +kernel
theorem dX1_send_172 : decode cX1_send 172 = .ok (.iastore, 1) := by decide +kernel
theorem dX1_send_173 : decode cX1_send 173 = .ok (.aload_n 0, 1) := by decide +kernel
theorem dX1_send_174 : decode cX1_send 174 = .ok (.getfield 45, 3) := by decide +kernel
theorem dX1_send_177 : decode cX1_send 177 = .ok (.aload_n 0, 1) := by decide +kernel
theorem dX1_send_178 : decode cX1_send 178 = .ok (.getfield 102, 3) := by decide +kernel
theorem dX1_send_181 : decode cX1_send 181 = .ok (.aload_n 0, 1) := by decide +kernel
theorem dX1_send_182 : decode cX1_send 182 = .ok (.getfield 30, 3) := by decide +kernel
theorem dX1_send_185 : decode cX1_send 185 = .ok (.iload_n 1, 1) := by decide +kernel
theorem dX1_send_186 : decode cX1_send 186 = .ok (.iaload, 1) := by decide +kernel
theorem dX1_send_187 : decode cX1_send 187 = .ok (.iconst 1, 1) := by decide +kernel
theorem dX1_send_188 : decode cX1_send 188 = .ok (.isub, 1) := by decide +kernel
theorem dX1_send_189 : decode cX1_send 189 = .ok (.iastore, 1) := by decide +kernel
theorem dX1_send_190 : decode cX1_send 190 = .ok (.aload_n 0, 1) := by decide +kernel
theorem dX1_send_191 : decode cX1_send 191 = .ok (.dup, 1) := by decide +kernel
theorem dX1_send_192 : decode cX1_send 192 = .ok (.getfield 102, 3) := by decide +kernel
theorem dX1_send_195 : decode cX1_send 195 = .ok (.iconst 1, 1) := by decide +kernel
theorem dX1_send_196 : decode cX1_send 196 = .ok (.iadd, 1) := by decide +kernel
theorem dX1_send_197 : decode cX1_send 197 = .ok (.putfield 102, 3) := by decide +kernel
theorem dX1_send_200 : decode cX1_send 200 = .ok (.aload_n 0, 1) := by decide +kernel
theorem dX1_send_201 : decode cX1_send 201 = .ok (.getfield 33, 3) := by decide +kernel
theorem dX1_send_204 : decode cX1_send 204 = .ok (.iload_n 1, 1) := by decide +kernel
theorem dX1_send_205 : decode cX1_send 205 = .ok (.aload_n 0, 1) := by decide +kernel
theorem dX1_send_206 : decode cX1_send 206 = .ok (.getfield 102, 3) := by decide +kernel
theorem dX1_send_209 : decode cX1_send 209 = .ok (.iastore, 1) := by decide +kernel
theorem dX1_send_210 : decode cX1_send 210 = .ok (.aload_n 0, 1) := by decide +kernel
theorem dX1_send_211 : decode cX1_send 211 = .ok (.getfield 102, 3) := by decide +kernel
theorem dX1_send_214 : decode cX1_send 214 = .ok (.iconst 1, 1) := by decide +kernel
theorem dX1_send_215 : decode cX1_send 215 = .ok (.isub, 1) := by decide +kernel
theorem dX1_send_216 : decode cX1_send 216 = .ok (.ireturn, 1) := by decide +kernel
set_option maxRecDepth 20000 in
theorem ggX1_asksBallot_X1_in : GoodIn wsX1_asksBallot wsX1_in := goodIn_r _ [6] (by decide +kernel) (by decide +kernel)
set_option maxRecDepth 20000 in
theorem gX1_asksBallot_X1_in : GoodIn wsX1_asksBallot (va_wsS RX1 54 yX1_in wsX1_in) := goodIn_app (goodIn_of _ (by decide +kernel)) ggX1_asksBallot_X1_in
theorem dX1_asksBallot_0 : decode cX1_asksBallot 0 = .ok (.aload_n 0, 1) := by decide +kernel
theorem dX1_asksBallot_1 : decode cX1_asksBallot 1 = .ok (.iload_n 1, 1) := by decide +kernel
theorem dX1_asksBallot_2 : decode cX1_asksBallot 2 = .ok (.iconst 0, 1) := by decide +kernel
theorem dX1_asksBallot_3 : decode cX1_asksBallot 3 = .ok (.aload_n 0, 1) := by decide +kernel
theorem dX1_asksBallot_4 : decode cX1_asksBallot 4 = .ok (.getfield 102, 3) := by decide +kernel
theorem dX1_asksBallot_7 : decode cX1_asksBallot 7 = .ok (.iconst 1, 1) := by decide +kernel
theorem dX1_asksBallot_8 : decode cX1_asksBallot 8 = .ok (.isub, 1) := by decide +kernel
theorem dX1_asksBallot_9 : decode cX1_asksBallot 9 = .ok (.invokestatic 54, 3) := by decide +kernel
theorem dX1_asksBallot_12 : decode cX1_asksBallot 12 = .ok (.ifCond .eq 7, 3) := by decide +kernel
theorem dX1_asksBallot_15 : decode cX1_asksBallot 15 = .ok (.iconst 0, 1) := by decide +kernel
theorem dX1_asksBallot_16 : decode cX1_asksBallot 16 = .ok (.goto 4, 3) := by decide +kernel
theorem dX1_asksBallot_19 : decode cX1_asksBallot 19 = .ok (.iconst 1, 1) := by decide +kernel
theorem dX1_asksBallot_20 : decode cX1_asksBallot 20 = .ok (.putfield 51, 3) := by decide +kernel
theorem dX1_asksBallot_23 : decode cX1_asksBallot 23 = .ok (.aload_n 0, 1) := by decide +kernel
theorem dX1_asksBallot_24 : decode cX1_asksBallot 24 = .ok (.getfield 51, 3) := by decide +kernel
theorem dX1_asksBallot_27 : decode cX1_asksBallot 27 = .ok (.ifCond .ne 7, 3) := by decide +kernel
theorem dX1_asksBallot_30 : decode cX1_asksBallot 30 = .ok (.iconst 1, 1) := by decide +kernel
theorem dX1_asksBallot_31 : decode cX1_asksBallot 31 = .ok (.goto 4, 3) := by decide +kernel
theorem dX1_asksBallot_34 : decode cX1_asksBallot 34 = .ok (.iconst 0, 1) := by decide +kernel
theorem dX1_asksBallot_35 : decode cX1_asksBallot 35 = .ok (.ireturn, 1) := by decide +kernel
set_option maxRecDepth 20000 in
theorem ggX1_sentTo_X1_asksBallot : GoodIn wsX1_sentTo wsX1_asksBallot := goodIn_r _ [6, 7, 8, 9, 10, 5, 11, 12, 13, 14, 15, 16, 17, 18, 19, 20, 21, 22, 23, 24, 25, 26, 27, 28, 29] (by decide +kernel) (by decide +kernel)
set_option maxRecDepth 20000 in
theorem gX1_sentTo_X1_asksBallot : GoodIn wsX1_sentTo (wsV RX1 105 RX1 yX1_asksBallot wsX1_asksBallot) := goodIn_app (goodIn_of _ (by decide +kernel)) ggX1_sentTo_X1_asksBallot
theorem dX1_sentTo_0 : decode cX1_sentTo 0 = .ok (.aload_n 0, 1) := by decide +kernel
theorem dX1_sentTo_1 : decode cX1_sentTo 1 = .ok (.iload_n 1, 1) := by decide +kernel
theorem dX1_sentTo_2 : decode cX1_sentTo 2 = .ok (.invokevirtual 105, 3) := by decide +kernel
theorem dX1_sentTo_5 : decode cX1_sentTo 5 = .ok (.ifCond .eq 12, 3) := by decide +kernel
theorem dX1_sentTo_8 : decode cX1_sentTo 8 = .ok (.aload_n 0, 1) := by decide +kernel
theorem dX1_sentTo_9 : decode cX1_sentTo 9 = .ok (.getfield 36, 3) := by decide +kernel
theorem dX1_sentTo_12 : decode cX1_sentTo 12 = .ok (.iload_n 1, 1) := by decide +kernel
theorem dX1_sentTo_13 : decode cX1_sentTo 13 = .ok (.iaload, 1) := by decide +kernel
theorem dX1_sentTo_14 : decode cX1_sentTo 14 = .ok (.goto 4, 3) := by decide +kernel
theorem dX1_sentTo_17 : decode cX1_sentTo 17 = .ok (.iconst 0, 1) := by decide +kernel
theorem dX1_sentTo_18 : decode cX1_sentTo 18 = .ok (.ireturn, 1) := by decide +kernel
set_option maxRecDepth 20000 in
theorem ggX1_giveBack_X1_in : GoodIn wsX1_giveBack wsX1_in := goodIn_r _ [12] (by decide +kernel) (by decide +kernel)
set_option maxRecDepth 20000 in
theorem gX1_giveBack_X1_in : GoodIn wsX1_giveBack (va_wsS RX1 54 yX1_in wsX1_in) := goodIn_app (goodIn_of _ (by decide +kernel)) ggX1_giveBack_X1_in
theorem dX1_giveBack_0 : decode cX1_giveBack 0 = .ok (.aload_n 0, 1) := by decide +kernel
theorem dX1_giveBack_1 : decode cX1_giveBack 1 = .ok (.iload_n 1, 1) := by decide +kernel
theorem dX1_giveBack_2 : decode cX1_giveBack 2 = .ok (.iconst 0, 1) := by decide +kernel
theorem dX1_giveBack_3 : decode cX1_giveBack 3 = .ok (.aload_n 0, 1) := by decide +kernel
theorem dX1_giveBack_4 : decode cX1_giveBack 4 = .ok (.getfield 102, 3) := by decide +kernel
theorem dX1_giveBack_7 : decode cX1_giveBack 7 = .ok (.iconst 1, 1) := by decide +kernel
theorem dX1_giveBack_8 : decode cX1_giveBack 8 = .ok (.isub, 1) := by decide +kernel
theorem dX1_giveBack_9 : decode cX1_giveBack 9 = .ok (.invokestatic 54, 3) := by decide +kernel
theorem dX1_giveBack_12 : decode cX1_giveBack 12 = .ok (.ifCond .ne 7, 3) := by decide +kernel
theorem dX1_giveBack_15 : decode cX1_giveBack 15 = .ok (.iconst 1, 1) := by decide +kernel
theorem dX1_giveBack_16 : decode cX1_giveBack 16 = .ok (.goto 17, 3) := by decide +kernel
theorem dX1_giveBack_19 : decode cX1_giveBack 19 = .ok (.iload_n 2, 1) := by decide +kernel
theorem dX1_giveBack_20 : decode cX1_giveBack 20 = .ok (.iconst 0, 1) := by decide +kernel
theorem dX1_giveBack_21 : decode cX1_giveBack 21 = .ok (.iconst 2, 1) := by decide +kernel
theorem dX1_giveBack_22 : decode cX1_giveBack 22 = .ok (.invokestatic 54, 3) := by decide +kernel
theorem dX1_giveBack_25 : decode cX1_giveBack 25 = .ok (.ifCond .ne 7, 3) := by decide +kernel
theorem dX1_giveBack_28 : decode cX1_giveBack 28 = .ok (.iconst 2, 1) := by decide +kernel
theorem dX1_giveBack_29 : decode cX1_giveBack 29 = .ok (.goto 4, 3) := by decide +kernel
theorem dX1_giveBack_32 : decode cX1_giveBack 32 = .ok (.iconst 0, 1) := by decide +kernel
theorem dX1_giveBack_33 : decode cX1_giveBack 33 = .ok (.putfield 51, 3) := by decide +kernel
theorem dX1_giveBack_36 : decode cX1_giveBack 36 = .ok (.aload_n 0, 1) := by decide +kernel
theorem dX1_giveBack_37 : decode cX1_giveBack 37 = .ok (.getfield 51, 3) := by decide +kernel
theorem dX1_giveBack_40 : decode cX1_giveBack 40 = .ok (.ifCond .ne 41, 3) := by decide +kernel
theorem dX1_giveBack_43 : decode cX1_giveBack 43 = .ok (.aload_n 0, 1) := by decide +kernel
theorem dX1_giveBack_44 : decode cX1_giveBack 44 = .ok (.aload_n 0, 1) := by decide +kernel
theorem dX1_giveBack_45 : decode cX1_giveBack 45 = .ok (.getfield 39, 3) := by decide +kernel
theorem dX1_giveBack_48 : decode cX1_giveBack 48 = .ok (.iload_n 1, 1) := by decide +kernel
theorem dX1_giveBack_49 : decode cX1_giveBack 49 = .ok (.iaload, 1) := by decide +kernel
theorem dX1_giveBack_50 : decode cX1_giveBack 50 = .ok (.ifCond .ne 23, 3) := by decide +kernel
theorem dX1_giveBack_53 : decode cX1_giveBack 53 = .ok (.aload_n 0, 1) := by decide +kernel
theorem dX1_giveBack_54 : decode cX1_giveBack 54 = .ok (.getfield 95, 3) := by decide +kernel
theorem dX1_giveBack_57 : decode cX1_giveBack 57 = .ok (.ifCond .eq 16, 3) := by decide +kernel
theorem dX1_giveBack_60 : decode cX1_giveBack 60 = .ok (.aload_n 0, 1) := by decide +kernel
theorem dX1_giveBack_61 : decode cX1_giveBack 61 = .ok (.getfield 42, 3) := by decide +kernel
theorem dX1_giveBack_64 : decode cX1_giveBack 64 = .ok (.iload_n 1, 1) := by decide +kernel
theorem dX1_giveBack_65 : decode cX1_giveBack 65 = .ok (.iaload, 1) := by decide +kernel
theorem dX1_giveBack_66 : decode cX1_giveBack 66 = .ok (.aload_n 0, 1) := by decide +kernel
theorem dX1_giveBack_67 : decode cX1_giveBack 67 = .ok (.getfield 99, 3) := by decide +kernel
theorem dX1_giveBack_70 : decode cX1_giveBack 70 = .ok (.if_icmp .eq 7, 3) := by decide +kernel
theorem dX1_giveBack_73 : decode cX1_giveBack 73 = .ok (.iconst 3, 1) := by decide +kernel
theorem dX1_giveBack_74 : decode cX1_giveBack 74 = .ok (.goto 4, 3) := by decide +kernel
theorem dX1_giveBack_77 : decode cX1_giveBack 77 = .ok (.iconst 0, 1) := by decide +kernel
theorem dX1_giveBack_78 : decode cX1_giveBack 78 = .ok (.putfield 51, 3) := by decide +kernel
theorem dX1_giveBack_81 : decode cX1_giveBack 81 = .ok (.aload_n 0, 1) := by decide +kernel
theorem dX1_giveBack_82 : decode cX1_giveBack 82 = .ok (.getfield 51, 3) := by decide +kernel
theorem dX1_giveBack_85 : decode cX1_giveBack 85 = .ok (.ifCond .le 5, 3) := by decide +kernel
theorem dX1_giveBack_88 : decode cX1_giveBack 88 = .ok (.iconst 0, 1) := by decide +kernel
theorem dX1_giveBack_89 : decode cX1_giveBack 89 = .ok (.ireturn, 1) := by decide +kernel
theorem dX1_giveBack_90 : decode cX1_giveBack 90 = .ok (.aload_n 0, 1) := by decide +kernel
theorem dX1_giveBack_91 : decode cX1_giveBack 91 = .ok (.getfield 39, 3) := by decide +kernel
theorem dX1_giveBack_94 : decode cX1_giveBack 94 = .ok (.iload_n 1, 1) := by decide +kernel
theorem dX1_giveBack_95 : decode cX1_giveBack 95 = .ok (.iconst 2, 1) := by decide +kernel
theorem dX1_giveBack_96 : decode cX1_giveBack 96 = .ok (.iastore, 1) := by decide +kernel
theorem dX1_giveBack_97 : decode cX1_giveBack 97 = .ok (.aload_n 0, 1) := by decide +kernel
theorem dX1_giveBack_98 : decode cX1_giveBack 98 = .ok (.getfield 48, 3) := by decide +kernel
theorem dX1_giveBack_101 : decode cX1_giveBack 101 = .ok (.iconst 3, 1) := by decide +kernel
theorem dX1_giveBack_102 : decode cX1_giveBack 102 = .ok (.aload_n 0, 1) := by decide +kernel
theorem dX1_giveBack_103 : decode cX1_giveBack 103 = .ok (.getfield 45, 3) := by decide +kernel
theorem dX1_giveBack_106 : decode cX1_giveBack 106 = .ok (.iload_n 1, 1) := by decide +kernel
theorem dX1_giveBack_107 : decode cX1_giveBack 107 = .ok (.iaload, 1) := by decide +kernel
theorem dX1_giveBack_108 : decode cX1_giveBack 108 = .ok (.imul, 1) := by decide +kernel
theorem dX1_giveBack_109 : decode cX1_giveBack 109 = .ok (.iload_n 2, 1) := by decide +kernel
theorem dX1_giveBack_110 : decode cX1_giveBack 110 = .ok (.iadd, 1) := by decide +kernel
theorem dX1_giveBack_111 : decode cX1_giveBack 111 = .ok (.dup2, 1) := by decide +kernel
theorem dX1_giveBack_112 : decode cX1_giveBack 112 = .ok (.iaload, 1) := by decide +kernel
theorem dX1_giveBack_113 : decode cX1_giveBack 113 = .ok (.iconst 1, 1) := by decide +kernel
theorem dX1_giveBack_114 : decode cX1_giveBack 114 = .ok (.iadd, 1) := by decide +kernel
theorem dX1_giveBack_115 : decode cX1_giveBack 115 = .ok (.iastore, 1) := by decide +kernel
theorem dX1_giveBack_116 : decode cX1_giveBack 116 = .ok (.aload_n 0, 1) := by decide +kernel
theorem dX1_giveBack_117 : decode cX1_giveBack 117 = .ok (.getfield 45, 3) := by decide +kernel
theorem dX1_giveBack_120 : decode cX1_giveBack 120 = .ok (.iload_n 1, 1) := by decide +kernel
theorem dX1_giveBack_121 : decode cX1_giveBack 121 = .ok (.iaload, 1) := by decide +kernel
theorem dX1_giveBack_122 : decode cX1_giveBack 122 = .ok (.ireturn, 1) := by decide +kernel
set_option maxRecDepth 20000 in
theorem ggX1_stateOf_X1_asksBallot : GoodIn wsX1_stateOf wsX1_asksBallot := goodIn_r _ [6, 7, 8, 9, 10, 5, 11, 12, 13, 14, 15, 16, 17, 18, 19, 20, 21, 22, 23, 24, 25, 26, 27, 28, 29] (by decide +kernel) (by decide +kernel)
set_option maxRecDepth 20000 in
theorem gX1_stateOf_X1_asksBallot : GoodIn wsX1_stateOf (wsV RX1 105 RX1 yX1_asksBallot wsX1_asksBallot) := goodIn_app (goodIn_of _ (by decide +kernel)) ggX1_stateOf_X1_asksBallot
theorem dX1_stateOf_0 : decode cX1_stateOf 0 = .ok (.aload_n 0, 1) := by decide +kernel
theorem dX1_stateOf_1 : decode cX1_stateOf 1 = .ok (.iload_n 1, 1) := by decide +kernel
theorem dX1_stateOf_2 : decode cX1_stateOf 2 = .ok (.invokevirtual 105, 3) := by decide +kernel
theorem dX1_stateOf_5 : decode cX1_stateOf 5 = .ok (.ifCond .eq 12, 3) := by decide +kernel
theorem dX1_stateOf_8 : decode cX1_stateOf 8 = .ok (.aload_n 0, 1) := by decide +kernel
theorem dX1_stateOf_9 : decode cX1_stateOf 9 = .ok (.getfield 39, 3) := by decide +kernel
theorem dX1_stateOf_12 : decode cX1_stateOf 12 = .ok (.iload_n 1, 1) := by decide +kernel
theorem dX1_stateOf_13 : decode cX1_stateOf 13 = .ok (.iaload, 1) := by decide +kernel
theorem dX1_stateOf_14 : decode cX1_stateOf 14 = .ok (.goto 4, 3) := by decide +kernel
theorem dX1_stateOf_17 : decode cX1_stateOf 17 = .ok (.iconst 0, 1) := by decide +kernel
theorem dX1_stateOf_18 : decode cX1_stateOf 18 = .ok (.ireturn, 1) := by decide +kernel
set_option maxRecDepth 20000 in
theorem ggX1_counted_X1_isShard : GoodIn wsX1_counted wsX1_isShard := goodIn_r _ [6, 7, 8, 5, 9] (by decide +kernel) (by decide +kernel)
set_option maxRecDepth 20000 in
theorem gX1_counted_X1_isShard : GoodIn wsX1_counted (va_wsS RX1 71 yX1_isShard wsX1_isShard) := goodIn_app (goodIn_of _ (by decide +kernel)) ggX1_counted_X1_isShard
set_option maxRecDepth 20000 in
theorem ggX1_counted_X1_in : GoodIn wsX1_counted wsX1_in := goodIn_r _ [9] (by decide +kernel) (by decide +kernel)
set_option maxRecDepth 20000 in
theorem gX1_counted_X1_in : GoodIn wsX1_counted (va_wsS RX1 54 yX1_in wsX1_in) := goodIn_app (goodIn_of _ (by decide +kernel)) ggX1_counted_X1_in
theorem dX1_counted_0 : decode cX1_counted 0 = .ok (.aload_n 0, 1) := by decide +kernel
theorem dX1_counted_1 : decode cX1_counted 1 = .ok (.iload_n 1, 1) := by decide +kernel
theorem dX1_counted_2 : decode cX1_counted 2 = .ok (.invokestatic 71, 3) := by decide +kernel
theorem dX1_counted_5 : decode cX1_counted 5 = .ok (.ifCond .ne 7, 3) := by decide +kernel
theorem dX1_counted_8 : decode cX1_counted 8 = .ok (.iconst 1, 1) := by decide +kernel
theorem dX1_counted_9 : decode cX1_counted 9 = .ok (.goto 17, 3) := by decide +kernel
theorem dX1_counted_12 : decode cX1_counted 12 = .ok (.iload_n 2, 1) := by decide +kernel
theorem dX1_counted_13 : decode cX1_counted 13 = .ok (.iconst 0, 1) := by decide +kernel
theorem dX1_counted_14 : decode cX1_counted 14 = .ok (.iconst 2, 1) := by decide +kernel
theorem dX1_counted_15 : decode cX1_counted 15 = .ok (.invokestatic 54, 3) := by decide +kernel
theorem dX1_counted_18 : decode cX1_counted 18 = .ok (.ifCond .eq 7, 3) := by decide +kernel
theorem dX1_counted_21 : decode cX1_counted 21 = .ok (.iconst 0, 1) := by decide +kernel
theorem dX1_counted_22 : decode cX1_counted 22 = .ok (.goto 4, 3) := by decide +kernel
theorem dX1_counted_25 : decode cX1_counted 25 = .ok (.iconst 2, 1) := by decide +kernel
theorem dX1_counted_26 : decode cX1_counted 26 = .ok (.putfield 51, 3) := by decide +kernel
theorem dX1_counted_29 : decode cX1_counted 29 = .ok (.aload_n 0, 1) := by decide +kernel
theorem dX1_counted_30 : decode cX1_counted 30 = .ok (.getfield 51, 3) := by decide +kernel
theorem dX1_counted_33 : decode cX1_counted 33 = .ok (.ifCond .le 7, 3) := by decide +kernel
theorem dX1_counted_36 : decode cX1_counted 36 = .ok (.iconst 0, 1) := by decide +kernel
theorem dX1_counted_37 : decode cX1_counted 37 = .ok (.goto 13, 3) := by decide +kernel
theorem dX1_counted_40 : decode cX1_counted 40 = .ok (.aload_n 0, 1) := by decide +kernel
theorem dX1_counted_41 : decode cX1_counted 41 = .ok (.getfield 48, 3) := by decide +kernel
theorem dX1_counted_44 : decode cX1_counted 44 = .ok (.iconst 3, 1) := by decide +kernel
theorem dX1_counted_45 : decode cX1_counted 45 = .ok (.iload_n 1, 1) := by decide +kernel
theorem dX1_counted_46 : decode cX1_counted 46 = .ok (.imul, 1) := by decide +kernel
theorem dX1_counted_47 : decode cX1_counted 47 = .ok (.iload_n 2, 1) := by decide +kernel
theorem dX1_counted_48 : decode cX1_counted 48 = .ok (.iadd, 1) := by decide +kernel
theorem dX1_counted_49 : decode cX1_counted 49 = .ok (.iaload, 1) := by decide +kernel
theorem dX1_counted_50 : decode cX1_counted 50 = .ok (.ireturn, 1) := by decide +kernel
theorem dX1_close_0 : decode cX1_close 0 = .ok (.aload_n 0, 1) := by decide +kernel
theorem dX1_close_1 : decode cX1_close 1 = .ok (.aload_n 0, 1) := by decide +kernel
theorem dX1_close_2 : decode cX1_close 2 = .ok (.getfield 95, 3) := by decide +kernel
theorem dX1_close_5 : decode cX1_close 5 = .ok (.ifCond .eq 7, 3) := by decide +kernel
theorem dX1_close_8 : decode cX1_close 8 = .ok (.iconst 0, 1) := by decide +kernel
theorem dX1_close_9 : decode cX1_close 9 = .ok (.goto 4, 3) := by decide +kernel
theorem dX1_close_12 : decode cX1_close 12 = .ok (.iconst 1, 1) := by decide +kernel
theorem dX1_close_13 : decode cX1_close 13 = .ok (.putfield 51, 3) := by decide +kernel
theorem dX1_close_16 : decode cX1_close 16 = .ok (.aload_n 0, 1) := by decide +kernel
theorem dX1_close_17 : decode cX1_close 17 = .ok (.getfield 51, 3) := by decide +kernel
theorem dX1_close_20 : decode cX1_close 20 = .ok (.ifCond .le 5, 3) := by decide +kernel
theorem dX1_close_23 : decode cX1_close 23 = .ok (.iconst 0, 1) := by decide +kernel
theorem dX1_close_24 : decode cX1_close 24 = .ok (.ireturn, 1) := by decide +kernel
theorem dX1_close_25 : decode cX1_close 25 = .ok (.aload_n 0, 1) := by decide +kernel
theorem dX1_close_26 : decode cX1_close 26 = .ok (.iconst 0, 1) := by decide +kernel
theorem dX1_close_27 : decode cX1_close 27 = .ok (.putfield 95, 3) := by decide +kernel
theorem dX1_close_30 : decode cX1_close 30 = .ok (.iconst 0, 1) := by decide +kernel
theorem dX1_close_31 : decode cX1_close 31 = .ok (.istore_n 1, 1) := by decide +kernel
theorem dX1_close_32 : decode cX1_close 32 = .ok (.iconst 0, 1) := by decide +kernel
theorem dX1_close_33 : decode cX1_close 33 = .ok (.istore_n 2, 1) := by decide +kernel
theorem dX1_close_34 : decode cX1_close 34 = .ok (.iload_n 2, 1) := by decide +kernel
theorem dX1_close_35 : decode cX1_close 35 = .ok (.aload_n 0, 1) := by decide +kernel
theorem dX1_close_36 : decode cX1_close 36 = .ok (.getfield 102, 3) := by decide +kernel
theorem dX1_close_39 : decode cX1_close 39 = .ok (.if_icmp .ge 39, 3) := by decide +kernel
theorem dX1_close_42 : decode cX1_close 42 = .ok (.iload_n 1, 1) := by decide +kernel
theorem dX1_close_43 : decode cX1_close 43 = .ok (.aload_n 0, 1) := by decide +kernel
theorem dX1_close_44 : decode cX1_close 44 = .ok (.getfield 42, 3) := by decide +kernel
theorem dX1_close_47 : decode cX1_close 47 = .ok (.iload_n 2, 1) := by decide +kernel
theorem dX1_close_48 : decode cX1_close 48 = .ok (.iaload, 1) := by decide +kernel
theorem dX1_close_49 : decode cX1_close 49 = .ok (.aload_n 0, 1) := by decide +kernel
theorem dX1_close_50 : decode cX1_close 50 = .ok (.getfield 99, 3) := by decide +kernel
theorem dX1_close_53 : decode cX1_close 53 = .ok (.if_icmp .ne 16, 3) := by decide +kernel
theorem dX1_close_56 : decode cX1_close 56 = .ok (.aload_n 0, 1) := by decide +kernel
theorem dX1_close_57 : decode cX1_close 57 = .ok (.getfield 39, 3) := by decide +kernel
theorem dX1_close_60 : decode cX1_close 60 = .ok (.iload_n 2, 1) := by decide +kernel
theorem dX1_close_61 : decode cX1_close 61 = .ok (.iaload, 1) := by decide +kernel
theorem dX1_close_62 : decode cX1_close 62 = .ok (.ifCond .ne 7, 3) := by decide +kernel
theorem dX1_close_65 : decode cX1_close 65 = .ok (.iconst 1, 1) := by decide +kernel
theorem dX1_close_66 : decode cX1_close 66 = .ok (.goto 4, 3) := by decide +kernel
theorem dX1_close_69 : decode cX1_close 69 = .ok (.iconst 0, 1) := by decide +kernel
theorem dX1_close_70 : decode cX1_close 70 = .ok (.iadd, 1) := by decide +kernel
theorem dX1_close_71 : decode cX1_close 71 = .ok (.istore_n 1, 1) := by decide +kernel
theorem dX1_close_72 : decode cX1_close 72 = .ok (.iinc 2 1, 3) := by decide +kernel
theorem dX1_close_75 : decode cX1_close 75 = .ok (.goto (-41), 3) := by decide +kernel
theorem dX1_close_78 : decode cX1_close 78 = .ok (.iload_n 1, 1) := by decide +kernel
theorem dX1_close_79 : decode cX1_close 79 = .ok (.ireturn, 1) := by decide +kernel
theorem dJ7_fill_53178_0 : decode cJ7_fill_53178 0 = .ok (.iconst 0, 1) := by decide +kernel
theorem dJ7_fill_53178_1 : decode cJ7_fill_53178 1 = .ok (.istore_n 2, 1) := by decide +kernel
theorem dJ7_fill_53178_2 : decode cJ7_fill_53178 2 = .ok (.aload_n 0, 1) := by decide +kernel
theorem dJ7_fill_53178_3 : decode cJ7_fill_53178 3 = .ok (.arraylength, 1) := by decide +kernel
theorem dJ7_fill_53178_4 : decode cJ7_fill_53178 4 = .ok (.istore_n 3, 1) := by decide +kernel
theorem dJ7_fill_53178_5 : decode cJ7_fill_53178 5 = .ok (.iload_n 2, 1) := by decide +kernel
theorem dJ7_fill_53178_6 : decode cJ7_fill_53178 6 = .ok (.iload_n 3, 1) := by decide +kernel
theorem dJ7_fill_53178_7 : decode cJ7_fill_53178 7 = .ok (.if_icmp .ge 13, 3) := by decide +kernel
theorem dJ7_fill_53178_10 : decode cJ7_fill_53178 10 = .ok (.aload_n 0, 1) := by decide +kernel
theorem dJ7_fill_53178_11 : decode cJ7_fill_53178 11 = .ok (.iload_n 2, 1) := by decide +kernel
theorem dJ7_fill_53178_12 : decode cJ7_fill_53178 12 = .ok (.iload_n 1, 1) := by decide +kernel
theorem dJ7_fill_53178_13 : decode cJ7_fill_53178 13 = .ok (.iastore, 1) := by decide +kernel
theorem dJ7_fill_53178_14 : decode cJ7_fill_53178 14 = .ok (.iinc 2 1, 3) := by decide +kernel
theorem dJ7_fill_53178_17 : decode cJ7_fill_53178 17 = .ok (.goto (-12), 3) := by decide +kernel
theorem dJ7_fill_53178_20 : decode cJ7_fill_53178 20 = .ok (.return_, 1) := by decide +kernel
