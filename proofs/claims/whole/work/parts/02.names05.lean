theorem dX4_init_21 : decode cX4_init 21 = .ok (.bipush 120, 2) := by decide +kernel
theorem dX4_init_23 : decode cX4_init 23 = .ok (.newarray .int, 2) := by decide +kernel
theorem dX4_init_25 : decode cX4_init 25 = .ok (.putfield 16, 3) := by decide +kernel
theorem dX4_init_28 : decode cX4_init 28 = .ok (.aload_n 0, 1) := by decide +kernel
theorem dX4_init_29 : decode cX4_init 29 = .ok (.bipush 120, 2) := by decide +kernel
theorem dX4_init_31 : decode cX4_init 31 = .ok (.newarray .int, 2) := by decide +kernel
theorem dX4_init_33 : decode cX4_init 33 = .ok (.putfield 19, 3) := by decide +kernel
theorem dX4_init_36 : decode cX4_init 36 = .ok (.aload_n 0, 1) := by decide +kernel
theorem dX4_init_37 : decode cX4_init 37 = .ok (.sipush 26400, 3) := by decide +kernel
theorem dX4_init_40 : decode cX4_init 40 = .ok (.newarray .int, 2) := by decide +kernel
theorem dX4_init_42 : decode cX4_init 42 = .ok (.putfield 22, 3) := by decide +kernel
theorem dX4_init_45 : decode cX4_init 45 = .ok (.aload_n 0, 1) := by decide +kernel
theorem dX4_init_46 : decode cX4_init 46 = .ok (.bipush 120, 2) := by decide +kernel
theorem dX4_init_48 : decode cX4_init 48 = .ok (.newarray .boolean, 2) := by decide +kernel
theorem dX4_init_50 : decode cX4_init 50 = .ok (.putfield 25, 3) := by decide +kernel
theorem dX4_init_53 : decode cX4_init 53 = .ok (.aload_n 0, 1) := by decide +kernel
theorem dX4_init_54 : decode cX4_init 54 = .ok (.bipush 60, 2) := by decide +kernel
theorem dX4_init_56 : decode cX4_init 56 = .ok (.newarray .int, 2) := by decide +kernel
theorem dX4_init_58 : decode cX4_init 58 = .ok (.putfield 29, 3) := by decide +kernel
theorem dX4_init_61 : decode cX4_init 61 = .ok (.aload_n 0, 1) := by decide +kernel
theorem dX4_init_62 : decode cX4_init 62 = .ok (.sipush 180, 3) := by decide +kernel
theorem dX4_init_65 : decode cX4_init 65 = .ok (.newarray .int, 2) := by decide +kernel
theorem dX4_init_67 : decode cX4_init 67 = .ok (.putfield 32, 3) := by decide +kernel
theorem dX4_init_70 : decode cX4_init 70 = .ok (.aload_n 0, 1) := by decide +kernel
theorem dX4_init_71 : decode cX4_init 71 = .ok (.bipush 60, 2) := by decide +kernel
theorem dX4_init_73 : decode cX4_init 73 = .ok (.newarray .int, 2) := by decide +kernel
theorem dX4_init_75 : decode cX4_init 75 = .ok (.putfield 35, 3) := by decide +kernel
theorem dX4_init_78 : decode cX4_init 78 = .ok (.aload_n 0, 1) := by decide +kernel
theorem dX4_init_79 : decode cX4_init 79 = .ok (.sipush 180, 3) := by decide +kernel
theorem dX4_init_82 : decode cX4_init 82 = .ok (.newarray .int, 2) := by decide +kernel
theorem dX4_init_84 : decode cX4_init 84 = .ok (.putfield 38, 3) := by decide +kernel
theorem dX4_init_87 : decode cX4_init 87 = .ok (.aload_n 0, 1) := by decide +kernel
theorem dX4_init_88 : decode cX4_init 88 = .ok (.sipush 220, 3) := by decide +kernel
theorem dX4_init_91 : decode cX4_init 91 = .ok (.newarray .long, 2) := by decide +kernel
theorem dX4_init_93 : decode cX4_init 93 = .ok (.putfield 41, 3) := by decide +kernel
theorem dX4_init_96 : decode cX4_init 96 = .ok (.aload_n 0, 1) := by decide +kernel
theorem dX4_init_97 : decode cX4_init 97 = .ok (.sipush 220, 3) := by decide +kernel
theorem dX4_init_100 : decode cX4_init 100 = .ok (.newarray .long, 2) := by decide +kernel
theorem dX4_init_102 : decode cX4_init 102 = .ok (.putfield 45, 3) := by decide +kernel
theorem dX4_init_105 : decode cX4_init 105 = .ok (.aload_n 0, 1) := by decide +kernel
theorem dX4_init_106 : decode cX4_init 106 = .ok (.sipush 14400, 3) := by decide +kernel
theorem dX4_init_109 : decode cX4_init 109 = .ok (.newarray .boolean, 2) := by decide +kernel
theorem dX4_init_111 : decode cX4_init 111 = .ok (.putfield 48, 3) := by decide +kernel
theorem dX4_init_114 : decode cX4_init 114 = .ok (.return_, 1) := by decide +kernel
theorem dX4_thrown_0 : decode cX4_thrown 0 = .ok (.aload_n 0, 1) := by decide +kernel
theorem dX4_thrown_1 : decode cX4_thrown 1 = .ok (.getfield 51, 3) := by decide +kernel
theorem dX4_thrown_4 : decode cX4_thrown 4 = .ok (.ireturn, 1) := by decide +kernel
theorem dX4_raise_0 : decode cX4_raise 0 = .ok (.aload_n 0, 1) := by decide +kernel
theorem dX4_raise_1 : decode cX4_raise 1 = .ok (.iload_n 1, 1) := by decide +kernel
theorem dX4_raise_2 : decode cX4_raise 2 = .ok (.putfield 51, 3) := by decide +kernel
theorem dX4_raise_5 : decode cX4_raise 5 = .ok (.iconst 0, 1) := by decide +kernel
theorem dX4_raise_6 : decode cX4_raise 6 = .ok (.ireturn, 1) := by decide +kernel
theorem dX4_in_0 : decode cX4_in 0 = .ok (.lload_n 0, 1) := by decide +kernel
theorem dX4_in_1 : decode cX4_in 1 = .ok (.lload_n 2, 1) := by decide +kernel
theorem dX4_in_2 : decode cX4_in 2 = .ok (.lcmp, 1) := by decide +kernel
theorem dX4_in_3 : decode cX4_in 3 = .ok (.ifCond .lt 14, 3) := by decide +kernel
theorem dX4_in_6 : decode cX4_in 6 = .ok (.lload_n 0, 1) := by decide +kernel
theorem dX4_in_7 : decode cX4_in 7 = .ok (.lload 4, 2) := by decide +kernel
theorem dX4_in_9 : decode cX4_in 9 = .ok (.lcmp, 1) := by decide +kernel
theorem dX4_in_10 : decode cX4_in 10 = .ok (.ifCond .gt 7, 3) := by decide +kernel
theorem dX4_in_13 : decode cX4_in 13 = .ok (.iconst 1, 1) := by decide +kernel
theorem dX4_in_14 : decode cX4_in 14 = .ok (.goto 4, 3) := by decide +kernel
theorem dX4_in_17 : decode cX4_in 17 = .ok (.iconst 0, 1) := by decide +kernel
theorem dX4_in_18 : decode cX4_in 18 = .ok (.ireturn, 1) := by decide +kernel
set_option maxRecDepth 20000 in
theorem ggX4_isTree_X4_in : GoodIn wsX4_isTree wsX4_in := goodIn_r _ [5] (by decide +kernel) (by decide +kernel)
set_option maxRecDepth 20000 in
theorem gX4_isTree_X4_in : GoodIn wsX4_isTree (va_wsS RX4 58 yX4_in wsX4_in) := goodIn_app (goodIn_of _ (by decide +kernel)) ggX4_isTree_X4_in
theorem dX4_isTree_0 : decode cX4_isTree 0 = .ok (.iload_n 1, 1) := by decide +kernel
theorem dX4_isTree_1 : decode cX4_isTree 1 = .ok (.i2l, 1) := by decide +kernel
theorem dX4_isTree_2 : decode cX4_isTree 2 = .ok (.lconst 0, 1) := by decide +kernel
theorem dX4_isTree_3 : decode cX4_isTree 3 = .ok (.aload_n 0, 1) := by decide +kernel
theorem dX4_isTree_4 : decode cX4_isTree 4 = .ok (.getfield 55, 3) := by decide +kernel
theorem dX4_isTree_7 : decode cX4_isTree 7 = .ok (.iconst 1, 1) := by decide +kernel
theorem dX4_isTree_8 : decode cX4_isTree 8 = .ok (.isub, 1) := by decide +kernel
theorem dX4_isTree_9 : decode cX4_isTree 9 = .ok (.i2l, 1) := by decide +kernel
theorem dX4_isTree_10 : decode cX4_isTree 10 = .ok (.invokestatic 58, 3) := by decide +kernel
theorem dX4_isTree_13 : decode cX4_isTree 13 = .ok (.ireturn, 1) := by decide +kernel
set_option maxRecDepth 20000 in
theorem ggX4_isRow_X4_in : GoodIn wsX4_isRow wsX4_in := goodIn_r _ [5] (by decide +kernel) (by decide +kernel)
set_option maxRecDepth 20000 in
theorem gX4_isRow_X4_in : GoodIn wsX4_isRow (va_wsS RX4 58 yX4_in wsX4_in) := goodIn_app (goodIn_of _ (by decide +kernel)) ggX4_isRow_X4_in
theorem dX4_isRow_0 : decode cX4_isRow 0 = .ok (.iload_n 1, 1) := by decide +kernel
theorem dX4_isRow_1 : decode cX4_isRow 1 = .ok (.i2l, 1) := by decide +kernel
theorem dX4_isRow_2 : decode cX4_isRow 2 = .ok (.lconst 0, 1) := by decide +kernel
theorem dX4_isRow_3 : decode cX4_isRow 3 = .ok (.aload_n 0, 1) := by decide +kernel
theorem dX4_isRow_4 : decode cX4_isRow 4 = .ok (.getfield 62, 3) := by decide +kernel
theorem dX4_isRow_7 : decode cX4_isRow 7 = .ok (.iconst 1, 1) := by decide +kernel
theorem dX4_isRow_8 : decode cX4_isRow 8 = .ok (.isub, 1) := by decide +kernel
theorem dX4_isRow_9 : decode cX4_isRow 9 = .ok (.i2l, 1) := by decide +kernel
theorem dX4_isRow_10 : decode cX4_isRow 10 = .ok (.invokestatic 58, 3) := by decide +kernel
theorem dX4_isRow_13 : decode cX4_isRow 13 = .ok (.ireturn, 1) := by decide +kernel
theorem dX4_twos_0 : decode cX4_twos 0 = .ok (.iload_n 0, 1) := by decide +kernel
theorem dX4_twos_1 : decode cX4_twos 1 = .ok (.iload_n 0, 1) := by decide +kernel
theorem dX4_twos_2 : decode cX4_twos 2 = .ok (.iconst 1, 1) := by decide +kernel
theorem dX4_twos_3 : decode cX4_twos 3 = .ok (.iadd, 1) := by decide +kernel
theorem dX4_twos_4 : decode cX4_twos 4 = .ok (.imul, 1) := by decide +kernel
theorem dX4_twos_5 : decode cX4_twos 5 = .ok (.iconst 2, 1) := by decide +kernel
theorem dX4_twos_6 : decode cX4_twos 6 = .ok (.idiv, 1) := by decide +kernel
theorem dX4_twos_7 : decode cX4_twos 7 = .ok (.ireturn, 1) := by decide +kernel
theorem dX4_threes_0 : decode cX4_threes 0 = .ok (.iload_n 0, 1) := by decide +kernel
theorem dX4_threes_1 : decode cX4_threes 1 = .ok (.iload_n 0, 1) := by decide +kernel
theorem dX4_threes_2 : decode cX4_threes 2 = .ok (.iconst 1, 1) := by decide +kernel
theorem dX4_threes_3 : decode cX4_threes 3 = .ok (.iadd, 1) := by decide +kernel
theorem dX4_threes_4 : decode cX4_threes 4 = .ok (.imul, 1) := by decide +kernel
theorem dX4_threes_5 : decode cX4_threes 5 = .ok (.iload_n 0, 1) := by decide +kernel
theorem dX4_threes_6 : decode cX4_threes 6 = .ok (.iconst 2, 1) := by decide +kernel
theorem dX4_threes_7 : decode cX4_threes 7 = .ok (.iadd, 1) := by decide +kernel
theorem dX4_threes_8 : decode cX4_threes 8 = .ok (.imul, 1) := by decide +kernel
theorem dX4_threes_9 : decode cX4_threes 9 = .ok (.bipush 6, 2) := by decide +kernel
theorem dX4_threes_11 : decode cX4_threes 11 = .ok (.idiv, 1) := by decide +kernel
theorem dX4_threes_12 : decode cX4_threes 12 = .ok (.ireturn, 1) := by decide +kernel
set_option maxRecDepth 20000 in
theorem ggX4_place_X4_threes : GoodIn wsX4_place wsX4_threes := goodIn_r _ [4] (by decide +kernel) (by decide +kernel)
set_option maxRecDepth 20000 in
theorem gX4_place_X4_threes : GoodIn wsX4_place (va_wsS RX4 65 yX4_threes wsX4_threes) := goodIn_app (goodIn_of _ (by decide +kernel)) ggX4_place_X4_threes
set_option maxRecDepth 20000 in
theorem ggX4_place_X4_twos : GoodIn wsX4_place wsX4_twos := goodIn_r _ [7] (by decide +kernel) (by decide +kernel)
set_option maxRecDepth 20000 in
theorem gX4_place_X4_twos : GoodIn wsX4_place (va_wsS RX4 69 yX4_twos wsX4_twos) := goodIn_app (goodIn_of _ (by decide +kernel)) ggX4_place_X4_twos
theorem dX4_place_0 : decode cX4_place 0 = .ok (.iload_n 0, 1) := by decide +kernel
theorem dX4_place_1 : decode cX4_place 1 = .ok (.iload_n 1, 1) := by decide +kernel
theorem dX4_place_2 : decode cX4_place 2 = .ok (.iadd, 1) := by decide +kernel
theorem dX4_place_3 : decode cX4_place 3 = .ok (.iload_n 2, 1) := by decide +kernel
theorem dX4_place_4 : decode cX4_place 4 = .ok (.iadd, 1) := by decide +kernel
theorem dX4_place_5 : decode cX4_place 5 = .ok (.invokestatic 65, 3) := by decide +kernel
theorem dX4_place_8 : decode cX4_place 8 = .ok (.iload_n 1, 1) := by decide +kernel
theorem dX4_place_9 : decode cX4_place 9 = .ok (.iload_n 2, 1) := by decide +kernel
theorem dX4_place_10 : decode cX4_place 10 = .ok (.iadd, 1) := by decide +kernel
theorem dX4_place_11 : decode cX4_place 11 = .ok (.invokestatic 69, 3) := by decide +kernel
theorem dX4_place_14 : decode cX4_place 14 = .ok (.iadd, 1) := by decide +kernel
theorem dX4_place_15 : decode cX4_place 15 = .ok (.iload_n 2, 1) := by decide +kernel
theorem dX4_place_16 : decode cX4_place 16 = .ok (.iadd, 1) := by decide +kernel
theorem dX4_place_17 : decode cX4_place 17 = .ok (.ireturn, 1) := by decide +kernel
set_option maxRecDepth 20000 in
theorem ggX4_add_X4_findPolynomial : GoodIn wsX4_add wsX4_findPolynomial := goodIn_r _ [10, 3, 4, 11, 1, 12, 13, 14, 15, 16, 9, 17, 18, 19, 20, 21, 22, 23, 24, 25, 26, 27, 28, 29, 30, 31, 32, 33, 34, 35, 36, 37, 38, 39, 40, 41, 42, 43, 44, 45, 46, 47, 48, 49, 50, 51, 52, 53, 54, 55, 56, 57, 58, 59, 60, 61] (by decide +kernel) (by decide +kernel)
set_option maxRecDepth 20000 in
theorem gX4_add_X4_findPolynomial : GoodIn wsX4_add (wsV RX4 72 RX4 yX4_findPolynomial wsX4_findPolynomial) := goodIn_app (goodIn_of _ (by decide +kernel)) ggX4_add_X4_findPolynomial
theorem dX4_add_0 : decode cX4_add 0 = .ok (.aload_n 0, 1) := by decide +kernel
theorem dX4_add_1 : decode cX4_add 1 = .ok (.getfield 7, 3) := by decide +kernel
theorem dX4_add_4 : decode cX4_add 4 = .ok (.aload_n 0, 1) := by decide +kernel
theorem dX4_add_5 : decode cX4_add 5 = .ok (.getfield 55, 3) := by decide +kernel
theorem dX4_add_8 : decode cX4_add 8 = .ok (.iload_n 1, 1) := by decide +kernel
theorem dX4_add_9 : decode cX4_add 9 = .ok (.iastore, 1) := by decide +kernel
theorem dX4_add_10 : decode cX4_add 10 = .ok (.aload_n 0, 1) := by decide +kernel
theorem dX4_add_11 : decode cX4_add 11 = .ok (.getfield 13, 3) := by decide +kernel
theorem dX4_add_14 : decode cX4_add 14 = .ok (.aload_n 0, 1) := by decide +kernel
theorem dX4_add_15 : decode cX4_add 15 = .ok (.getfield 55, 3) := by decide +kernel
theorem dX4_add_18 : decode cX4_add 18 = .ok (.iload_n 2, 1) := by decide +kernel
theorem dX4_add_19 : decode cX4_add 19 = .ok (.iastore, 1) := by decide +kernel
theorem dX4_add_20 : decode cX4_add 20 = .ok (.aload_n 0, 1) := by decide +kernel
theorem dX4_add_21 : decode cX4_add 21 = .ok (.getfield 16, 3) := by decide +kernel
theorem dX4_add_24 : decode cX4_add 24 = .ok (.aload_n 0, 1) := by decide +kernel
theorem dX4_add_25 : decode cX4_add 25 = .ok (.getfield 55, 3) := by decide +kernel
theorem dX4_add_28 : decode cX4_add 28 = .ok (.iload_n 3, 1) := by decide +kernel
theorem dX4_add_29 : decode cX4_add 29 = .ok (.iastore, 1) := by decide +kernel
theorem dX4_add_30 : decode cX4_add 30 = .ok (.aload_n 0, 1) := by decide +kernel
theorem dX4_add_31 : decode cX4_add 31 = .ok (.getfield 19, 3) := by decide +kernel
theorem dX4_add_34 : decode cX4_add 34 = .ok (.aload_n 0, 1) := by decide +kernel
theorem dX4_add_35 : decode cX4_add 35 = .ok (.getfield 55, 3) := by decide +kernel
theorem dX4_add_38 : decode cX4_add 38 = .ok (.iload 4, 2) := by decide +kernel
theorem dX4_add_40 : decode cX4_add 40 = .ok (.iastore, 1) := by decide +kernel
theorem dX4_add_41 : decode cX4_add 41 = .ok (.aload_n 0, 1) := by decide +kernel
theorem dX4_add_42 : decode cX4_add 42 = .ok (.dup, 1) := by decide +kernel
theorem dX4_add_43 : decode cX4_add 43 = .ok (.getfield 55, 3) := by decide +kernel
theorem dX4_add_46 : decode cX4_add 46 = .ok (.iconst 1, 1) := by decide +kernel
theorem dX4_add_47 : decode cX4_add 47 = .ok (.iadd, 1) := by decide +kernel
theorem dX4_add_48 : decode cX4_add 48 = .ok (.putfield 55, 3) := by decide +kernel
theorem dX4_add_51 : decode cX4_add 51 = .ok (.aload_n 0, 1) := by decide +kernel
theorem dX4_add_52 : decode cX4_add 52 = .ok (.aload_n 0, 1) := by decide +kernel
theorem dX4_add_53 : decode cX4_add 53 = .ok (.getfield 55, 3) := by decide +kernel
theorem dX4_add_56 : decode cX4_add 56 = .ok (.iconst 1, 1) := by decide +kernel
theorem dX4_add_57 : decode cX4_add 57 = .ok (.isub, 1) := by decide +kernel
theorem dX4_add_58 : decode cX4_add 58 = .ok (.invokevirtual 72, 3) := by decide +kernel
theorem dX4_add_61 : decode cX4_add 61 = .ok (.aload_n 0, 1) := by decide +kernel
theorem dX4_add_62 : decode cX4_add 62 = .ok (.getfield 55, 3) := by decide +kernel
theorem dX4_add_65 : decode cX4_add 65 = .ok (.iconst 1, 1) := by decide +kernel
theorem dX4_add_66 : decode cX4_add 66 = .ok (.isub, 1) := by decide +kernel
theorem dX4_add_67 : decode cX4_add 67 = .ok (.ireturn, 1) := by decide +kernel
set_option maxRecDepth 20000 in
theorem ggX4_leaf_X4_in : GoodIn wsX4_leaf wsX4_in := goodIn_r _ [7] (by decide +kernel) (by decide +kernel)
set_option maxRecDepth 20000 in
theorem gX4_leaf_X4_in : GoodIn wsX4_leaf (va_wsS RX4 58 yX4_in wsX4_in) := goodIn_app (goodIn_of _ (by decide +kernel)) ggX4_leaf_X4_in
set_option maxRecDepth 20000 in
theorem ggX4_leaf_X4_add : GoodIn wsX4_leaf wsX4_add := goodIn_r _ [11, 12, 2, 13, 14, 15, 16, 17, 18, 6, 19, 20, 21, 22, 23, 24, 25, 26, 27, 28, 29, 30, 31, 32, 33, 34, 35, 36, 37, 38, 39, 40, 41, 42, 43, 44, 45, 46, 47, 48, 49, 50, 4, 5, 7, 51, 52, 53, 54, 55, 56, 57, 58, 59, 60, 61, 62, 63, 64, 65, 66, 67] (by decide +kernel) (by decide +kernel)
set_option maxRecDepth 20000 in
theorem gX4_leaf_X4_add : GoodIn wsX4_leaf (wsV RX4 78 RX4 yX4_add wsX4_add) := goodIn_app (goodIn_of _ (by decide +kernel)) ggX4_leaf_X4_add
theorem dX4_leaf_0 : decode cX4_leaf 0 = .ok (.aload_n 0, 1) := by decide +kernel
theorem dX4_leaf_1 : decode cX4_leaf 1 = .ok (.iload_n 1, 1) := by decide +kernel
theorem dX4_leaf_2 : decode cX4_leaf 2 = .ok (.i2l, 1) := by decide +kernel
theorem dX4_leaf_3 : decode cX4_leaf 3 = .ok (.lconst 0, 1) := by decide +kernel
theorem dX4_leaf_4 : decode cX4_leaf 4 = .ok (.ldc2_w 76, 3) := by decide +kernel
theorem dX4_leaf_7 : decode cX4_leaf 7 = .ok (.invokestatic 58, 3) := by decide +kernel
theorem dX4_leaf_10 : decode cX4_leaf 10 = .ok (.ifCond .ne 7, 3) := by decide +kernel
theorem dX4_leaf_13 : decode cX4_leaf 13 = .ok (.iconst 1, 1) := by decide +kernel
theorem dX4_leaf_14 : decode cX4_leaf 14 = .ok (.goto 17, 3) := by decide +kernel
theorem dX4_leaf_17 : decode cX4_leaf 17 = .ok (.aload_n 0, 1) := by decide +kernel
theorem dX4_leaf_18 : decode cX4_leaf 18 = .ok (.getfield 55, 3) := by decide +kernel
theorem dX4_leaf_21 : decode cX4_leaf 21 = .ok (.bipush 120, 2) := by decide +kernel
theorem dX4_leaf_23 : decode cX4_leaf 23 = .ok (.if_icmp .ne 7, 3) := by decide +kernel
theorem dX4_leaf_26 : decode cX4_leaf 26 = .ok (.iconst 2, 1) := by decide +kernel
theorem dX4_leaf_27 : decode cX4_leaf 27 = .ok (.goto 4, 3) := by decide +kernel
theorem dX4_leaf_30 : decode cX4_leaf 30 = .ok (.iconst 0, 1) := by decide +kernel
theorem dX4_leaf_31 : decode cX4_leaf 31 = .ok (.putfield 51, 3) := by decide +kernel
theorem dX4_leaf_34 : decode cX4_leaf 34 = .ok (.aload_n 0, 1) := by decide +kernel
theorem dX4_leaf_35 : decode cX4_leaf 35 = .ok (.getfield 51, 3) := by decide +kernel
theorem dX4_leaf_38 : decode cX4_leaf 38 = .ok (.ifCond .le 7, 3) := by decide +kernel
theorem dX4_leaf_41 : decode cX4_leaf 41 = .ok (.iconst 0, 1) := by decide +kernel
theorem dX4_leaf_42 : decode cX4_leaf 42 = .ok (.goto 11, 3) := by decide +kernel
theorem dX4_leaf_45 : decode cX4_leaf 45 = .ok (.aload_n 0, 1) := by decide +kernel
theorem dX4_leaf_46 : decode cX4_leaf 46 = .ok (.iconst (-1), 1) := by decide +kernel
theorem dX4_leaf_47 : decode cX4_leaf 47 = .ok (.iload_n 1, 1) := by decide +kernel
theorem dX4_leaf_48 : decode cX4_leaf 48 = .ok (.iconst (-1), 1) := by decide +kernel
theorem dX4_leaf_49 : decode cX4_leaf 49 = .ok (.iconst 0, 1) := by decide +kernel
theorem dX4_leaf_50 : decode cX4_leaf 50 = .ok (.invokevirtual 78, 3) := by decide +kernel
theorem dX4_leaf_53 : decode cX4_leaf 53 = .ok (.ireturn, 1) := by decide +kernel
set_option maxRecDepth 20000 in
theorem ggX4_number_X4_in : GoodIn wsX4_number wsX4_in := goodIn_r _ [8] (by decide +kernel) (by decide +kernel)
set_option maxRecDepth 20000 in
theorem gX4_number_X4_in : GoodIn wsX4_number (va_wsS RX4 58 yX4_in wsX4_in) := goodIn_app (goodIn_of _ (by decide +kernel)) ggX4_number_X4_in
set_option maxRecDepth 20000 in
theorem ggX4_number_X4_add : GoodIn wsX4_number wsX4_add := goodIn_r _ [12, 13, 3, 14, 15, 16, 17, 18, 19, 7, 20, 21, 22, 23, 24, 25, 26, 27, 28, 29, 30, 31, 32, 33, 34, 35, 36, 37, 38, 39, 40, 41, 42, 43, 44, 45, 46, 47, 48, 49, 1, 2, 5, 6, 8, 50, 51, 52, 53, 54, 55, 56, 57, 58, 59, 60, 61, 62, 63, 64, 65, 66] (by decide +kernel) (by decide +kernel)
set_option maxRecDepth 20000 in
theorem gX4_number_X4_add : GoodIn wsX4_number (wsV RX4 78 RX4 yX4_add wsX4_add) := goodIn_app (goodIn_of _ (by decide +kernel)) ggX4_number_X4_add
theorem dX4_number_0 : decode cX4_number 0 = .ok (.aload_n 0, 1) := by decide +kernel
theorem dX4_number_1 : decode cX4_number 1 = .ok (.iload_n 1, 1) := by decide +kernel
theorem dX4_number_2 : decode cX4_number 2 = .ok (.i2l, 1) := by decide +kernel
theorem dX4_number_3 : decode cX4_number 3 = .ok (.ldc2_w 82, 3) := by decide +kernel
theorem dX4_number_6 : decode cX4_number 6 = .ok (.ldc2_w 84, 3) := by decide +kernel
theorem dX4_number_9 : decode cX4_number 9 = .ok (.invokestatic 58, 3) := by decide +kernel
theorem dX4_number_12 : decode cX4_number 12 = .ok (.ifCond .ne 7, 3) := by decide +kernel
theorem dX4_number_15 : decode cX4_number 15 = .ok (.iconst 1, 1) := by decide +kernel
theorem dX4_number_16 : decode cX4_number 16 = .ok (.goto 17, 3) := by decide +kernel
theorem dX4_number_19 : decode cX4_number 19 = .ok (.aload_n 0, 1) := by decide +kernel
theorem dX4_number_20 : decode cX4_number 20 = .ok (.getfield 55, 3) := by decide +kernel
theorem dX4_number_23 : decode cX4_number 23 = .ok (.bipush 120, 2) := by decide +kernel
theorem dX4_number_25 : decode cX4_number 25 = .ok (.if_icmp .ne 7, 3) := by decide +kernel
theorem dX4_number_28 : decode cX4_number 28 = .ok (.iconst 2, 1) := by decide +kernel
theorem dX4_number_29 : decode cX4_number 29 = .ok (.goto 4, 3) := by decide +kernel
theorem dX4_number_32 : decode cX4_number 32 = .ok (.iconst 0, 1) := by decide +kernel
theorem dX4_number_33 : decode cX4_number 33 = .ok (.putfield 51, 3) := by decide +kernel
theorem dX4_number_36 : decode cX4_number 36 = .ok (.aload_n 0, 1) := by decide +kernel
theorem dX4_number_37 : decode cX4_number 37 = .ok (.getfield 51, 3) := by decide +kernel
theorem dX4_number_40 : decode cX4_number 40 = .ok (.ifCond .le 7, 3) := by decide +kernel
theorem dX4_number_43 : decode cX4_number 43 = .ok (.iconst 0, 1) := by decide +kernel
theorem dX4_number_44 : decode cX4_number 44 = .ok (.goto 12, 3) := by decide +kernel
theorem dX4_number_47 : decode cX4_number 47 = .ok (.aload_n 0, 1) := by decide +kernel
theorem dX4_number_48 : decode cX4_number 48 = .ok (.bipush (-2), 2) := by decide +kernel
theorem dX4_number_50 : decode cX4_number 50 = .ok (.iload_n 1, 1) := by decide +kernel
theorem dX4_number_51 : decode cX4_number 51 = .ok (.iconst (-1), 1) := by decide +kernel
theorem dX4_number_52 : decode cX4_number 52 = .ok (.iconst 0, 1) := by decide +kernel
theorem dX4_number_53 : decode cX4_number 53 = .ok (.invokevirtual 78, 3) := by decide +kernel
theorem dX4_number_56 : decode cX4_number 56 = .ok (.ireturn, 1) := by decide +kernel
set_option maxRecDepth 20000 in
theorem ggX4_node_X4_isTree : GoodIn wsX4_node wsX4_isTree := goodIn_r _ [9, 3, 10, 11, 8, 12, 59, 60, 61, 62, 63, 64, 65, 66, 67, 68, 69, 70, 71, 72, 73, 74, 75] (by decide +kernel) (by decide +kernel)
set_option maxRecDepth 20000 in
theorem gX4_node_X4_isTree : GoodIn wsX4_node (wsV RX4 86 RX4 yX4_isTree wsX4_isTree) := goodIn_app (goodIn_of _ (by decide +kernel)) ggX4_node_X4_isTree
set_option maxRecDepth 20000 in
theorem ggX4_node_X4_raise : GoodIn wsX4_node wsX4_raise := goodIn_r _ [16, 4, 59, 60, 61, 62, 63, 64, 65, 66, 67, 68, 69, 70, 71, 72, 73, 74, 75] (by decide +kernel) (by decide +kernel)
set_option maxRecDepth 20000 in
theorem gX4_node_X4_raise : GoodIn wsX4_node (wsV RX4 90 RX4 yX4_raise wsX4_raise) := goodIn_app (goodIn_of _ (by decide +kernel)) ggX4_node_X4_raise
set_option maxRecDepth 20000 in
theorem ggX4_node_X4_in : GoodIn wsX4_node wsX4_in := goodIn_r _ [12] (by decide +kernel) (by decide +kernel)
set_option maxRecDepth 20000 in
theorem gX4_node_X4_in : GoodIn wsX4_node (va_wsS RX4 58 yX4_in wsX4_in) := goodIn_app (goodIn_of _ (by decide +kernel)) ggX4_node_X4_in
set_option maxRecDepth 20000 in
theorem ggX4_node_X4_add : GoodIn wsX4_node wsX4_add := goodIn_r _ [20, 21, 3, 22, 23, 1, 24, 25, 26, 8, 27, 28, 29, 30, 31, 32, 33, 34, 35, 36, 37, 38, 39, 40, 41, 42, 43, 44, 45, 46, 47, 48, 49, 50, 51, 52, 53, 54, 55, 56, 57, 58, 10, 11, 12, 59, 60, 61, 62, 63, 64, 65, 66, 67, 68, 69, 70, 71, 72, 73, 74, 75] (by decide +kernel) (by decide +kernel)
set_option maxRecDepth 20000 in
theorem gX4_node_X4_add : GoodIn wsX4_node (wsV RX4 78 RX4 yX4_add wsX4_add) := goodIn_app (goodIn_of _ (by decide +kernel)) ggX4_node_X4_add
theorem dX4_node_0 : decode cX4_node 0 = .ok (.iload_n 1, 1) := by decide +kernel
theorem dX4_node_1 : decode cX4_node 1 = .ok (.iconst 2, 1) := by decide +kernel
theorem dX4_node_2 : decode cX4_node 2 = .ok (.if_icmp .le 12, 3) := by decide +kernel
theorem dX4_node_5 : decode cX4_node 5 = .ok (.iload_n 3, 1) := by decide +kernel
theorem dX4_node_6 : decode cX4_node 6 = .ok (.iconst (-1), 1) := by decide +kernel
theorem dX4_node_7 : decode cX4_node 7 = .ok (.if_icmp .ne 7, 3) := by decide +kernel
theorem dX4_node_10 : decode cX4_node 10 = .ok (.iconst 1, 1) := by decide +kernel
theorem dX4_node_11 : decode cX4_node 11 = .ok (.goto 4, 3) := by decide +kernel
theorem dX4_node_14 : decode cX4_node 14 = .ok (.iconst 0, 1) := by decide +kernel
theorem dX4_node_15 : decode cX4_node 15 = .ok (.istore 4, 2) := by decide +kernel
theorem dX4_node_17 : decode cX4_node 17 = .ok (.aload_n 0, 1) := by decide +kernel
theorem dX4_node_18 : decode cX4_node 18 = .ok (.iload_n 2, 1) := by decide +kernel
theorem dX4_node_19 : decode cX4_node 19 = .ok (.invokevirtual 86, 3) := by decide +kernel
theorem dX4_node_22 : decode cX4_node 22 = .ok (.ifCond .eq 16, 3) := by decide +kernel
theorem dX4_node_25 : decode cX4_node 25 = .ok (.iload 4, 2) := by decide +kernel
theorem dX4_node_27 : decode cX4_node 27 = .ok (.ifCond .ne 17, 3) := by decide +kernel
theorem dX4_node_30 : decode cX4_node 30 = .ok (.aload_n 0, 1) := by decide +kernel
theorem dX4_node_31 : decode cX4_node 31 = .ok (.iload_n 3, 1) := by decide +kernel
theorem dX4_node_32 : decode cX4_node 32 = .ok (.invokevirtual 86, 3) := by decide +kernel
theorem dX4_node_35 : decode cX4_node 35 = .ok (.ifCond .ne 9, 3) := by decide +kernel
theorem dX4_node_38 : decode cX4_node 38 = .ok (.aload_n 0, 1) := by decide +kernel
theorem dX4_node_39 : decode cX4_node 39 = .ok (.iconst 1, 1) := by decide +kernel
theorem dX4_node_40 : decode cX4_node 40 = .ok (.invokevirtual 90, 3) := by decide +kernel
theorem dX4_node_43 : decode cX4_node 43 = .ok (.ireturn, 1) := by decide +kernel
theorem dX4_node_44 : decode cX4_node 44 = .ok (.aload_n 0, 1) := by decide +kernel
theorem dX4_node_45 : decode cX4_node 45 = .ok (.getfield 19, 3) := by decide +kernel
theorem dX4_node_48 : decode cX4_node 48 = .ok (.iload_n 2, 1) := by decide +kernel
theorem dX4_node_49 : decode cX4_node 49 = .ok (.iaload, 1) := by decide +kernel
theorem dX4_node_50 : decode cX4_node 50 = .ok (.istore 5, 2) := by decide +kernel
theorem dX4_node_52 : decode cX4_node 52 = .ok (.iload_n 3, 1) := by decide +kernel
theorem dX4_node_53 : decode cX4_node 53 = .ok (.iconst (-1), 1) := by decide +kernel
theorem dX4_node_54 : decode cX4_node 54 = .ok (.if_icmp .eq 22, 3) := by decide +kernel
theorem dX4_node_57 : decode cX4_node 57 = .ok (.aload_n 0, 1) := by decide +kernel
theorem dX4_node_58 : decode cX4_node 58 = .ok (.getfield 19, 3) := by decide +kernel
theorem dX4_node_61 : decode cX4_node 61 = .ok (.iload_n 3, 1) := by decide +kernel
theorem dX4_node_62 : decode cX4_node 62 = .ok (.iaload, 1) := by decide +kernel
theorem dX4_node_63 : decode cX4_node 63 = .ok (.iload 5, 2) := by decide +kernel
theorem dX4_node_65 : decode cX4_node 65 = .ok (.if_icmp .le 11, 3) := by decide +kernel
theorem dX4_node_68 : decode cX4_node 68 = .ok (.aload_n 0, 1) := by decide +kernel
theorem dX4_node_69 : decode cX4_node 69 = .ok (.getfield 19, 3) := by decide +kernel
theorem dX4_node_72 : decode cX4_node 72 = .ok (.iload_n 3, 1) := by decide +kernel
theorem dX4_node_73 : decode cX4_node 73 = .ok (.iaload, 1) := by decide +kernel
theorem dX4_node_74 : decode cX4_node 74 = .ok (.istore 5, 2) := by decide +kernel
theorem dX4_node_76 : decode cX4_node 76 = .ok (.iload_n 1, 1) := by decide +kernel
theorem dX4_node_77 : decode cX4_node 77 = .ok (.i2l, 1) := by decide +kernel
theorem dX4_node_78 : decode cX4_node 78 = .ok (.lconst 0, 1) := by decide +kernel
theorem dX4_node_79 : decode cX4_node 79 = .ok (.ldc2_w 93, 3) := by decide +kernel
theorem dX4_node_82 : decode cX4_node 82 = .ok (.invokestatic 58, 3) := by decide +kernel
theorem dX4_node_85 : decode cX4_node 85 = .ok (.ifCond .eq 20, 3) := by decide +kernel
theorem dX4_node_88 : decode cX4_node 88 = .ok (.iload_n 1, 1) := by decide +kernel
theorem dX4_node_89 : decode cX4_node 89 = .ok (.iconst 2, 1) := by decide +kernel
theorem dX4_node_90 : decode cX4_node 90 = .ok (.if_icmp .le 8, 3) := by decide +kernel
theorem dX4_node_93 : decode cX4_node 93 = .ok (.iload_n 3, 1) := by decide +kernel
theorem dX4_node_94 : decode cX4_node 94 = .ok (.iconst (-1), 1) := by decide +kernel
theorem dX4_node_95 : decode cX4_node 95 = .ok (.if_icmp .ne 10, 3) := by decide +kernel
theorem dX4_node_98 : decode cX4_node 98 = .ok (.iload 5, 2) := by decide +kernel
theorem dX4_node_100 : decode cX4_node 100 = .ok (.bipush 19, 2) := by decide +kernel
theorem dX4_node_102 : decode cX4_node 102 = .ok (.if_icmp .le 9, 3) := by decide +kernel
theorem dX4_node_105 : decode cX4_node 105 = .ok (.aload_n 0, 1) := by decide +kernel
theorem dX4_node_106 : decode cX4_node 106 = .ok (.iconst 2, 1) := by decide +kernel
theorem dX4_node_107 : decode cX4_node 107 = .ok (.invokevirtual 90, 3) := by decide +kernel
theorem dX4_node_110 : decode cX4_node 110 = .ok (.ireturn, 1) := by decide +kernel
theorem dX4_node_111 : decode cX4_node 111 = .ok (.aload_n 0, 1) := by decide +kernel
theorem dX4_node_112 : decode cX4_node 112 = .ok (.getfield 55, 3) := by decide +kernel
theorem dX4_node_115 : decode cX4_node 115 = .ok (.bipush 120, 2) := by decide +kernel
theorem dX4_node_117 : decode cX4_node 117 = .ok (.if_icmp .ne 9, 3) := by decide +kernel
theorem dX4_node_120 : decode cX4_node 120 = .ok (.aload_n 0, 1) := by decide +kernel
theorem dX4_node_121 : decode cX4_node 121 = .ok (.iconst 3, 1) := by decide +kernel
theorem dX4_node_122 : decode cX4_node 122 = .ok (.invokevirtual 90, 3) := by decide +kernel
theorem dX4_node_125 : decode cX4_node 125 = .ok (.ireturn, 1) := by decide +kernel
theorem dX4_node_126 : decode cX4_node 126 = .ok (.aload_n 0, 1) := by decide +kernel
theorem dX4_node_127 : decode cX4_node 127 = .ok (.iconst 0, 1) := by decide +kernel
theorem dX4_node_128 : decode cX4_node 128 = .ok (.putfield 51, 3) := by decide +kernel
theorem dX4_node_131 : decode cX4_node 131 = .ok (.aload_n 0, 1) := by decide +kernel
theorem dX4_node_132 : decode cX4_node 132 = .ok (.iload_n 1, 1) := by decide +kernel
theorem dX4_node_133 : decode cX4_node 133 = .ok (.iload_n 2, 1) := by decide +kernel
theorem dX4_node_134 : decode cX4_node 134 = .ok (.iload_n 3, 1) := by decide +kernel
theorem dX4_node_135 : decode cX4_node 135 = .ok (.iload 5, 2) := by decide +kernel
theorem dX4_node_137 : decode cX4_node 137 = .ok (.iconst 1, 1) := by decide +kernel
theorem dX4_node_138 : decode cX4_node 138 = .ok (.iadd, 1) := by decide +kernel
theorem dX4_node_139 : decode cX4_node 139 = .ok (.invokevirtual 78, 3) := by decide +kernel
theorem dX4_node_142 : decode cX4_node 142 = .ok (.ireturn, 1) := by decide +kernel
set_option maxRecDepth 20000 in
theorem ggX4_findPolynomial_X4_place : GoodIn wsX4_findPolynomial wsX4_place := goodIn_r _ [11, 12, 13, 10, 14, 15, 16, 17] (by decide +kernel) (by decide +kernel)
set_option maxRecDepth 20000 in
theorem gX4_findPolynomial_X4_place : GoodIn wsX4_findPolynomial (va_wsS RX4 99 yX4_place wsX4_place) := goodIn_app (goodIn_of _ (by decide +kernel)) ggX4_findPolynomial_X4_place
set_option maxRecDepth 20000 in
theorem ggX4_findPolynomial_X4_multiply : GoodIn wsX4_findPolynomial wsX4_multiply := goodIn_r _ [21, 3, 6, 7, 22, 23, 24, 10, 25, 12, 13, 14, 8, 9, 11, 15, 16, 17, 26, 27, 28, 29, 39, 40, 41, 42, 43, 44, 45, 46, 47, 48, 49, 50, 51, 52, 53, 54, 55] (by decide +kernel) (by decide +kernel)
set_option maxRecDepth 20000 in
theorem gX4_findPolynomial_X4_multiply : GoodIn wsX4_findPolynomial (wsV RX4 103 RX4 yX4_multiply wsX4_multiply) := goodIn_app (goodIn_of _ (by decide +kernel)) ggX4_findPolynomial_X4_multiply
set_option maxRecDepth 20000 in
theorem ggX4_findPolynomial_X4_bound : GoodIn wsX4_findPolynomial wsX4_bound := goodIn_r _ [33, 3, 34, 35, 6, 36, 37, 10, 38, 39, 40, 41, 42, 43, 44, 45, 46, 47, 48, 49, 50, 51, 52, 53, 54, 55] (by decide +kernel) (by decide +kernel)
set_option maxRecDepth 20000 in
theorem gX4_findPolynomial_X4_bound : GoodIn wsX4_findPolynomial (wsV RX4 107 RX4 yX4_bound wsX4_bound) := goodIn_app (goodIn_of _ (by decide +kernel)) ggX4_findPolynomial_X4_bound
theorem dX4_findPolynomial_0 : decode cX4_findPolynomial 0 = .ok (.aload_n 0, 1) := by decide +kernel
theorem dX4_findPolynomial_1 : decode cX4_findPolynomial 1 = .ok (.getfield 13, 3) := by decide +kernel
theorem dX4_findPolynomial_4 : decode cX4_findPolynomial 4 = .ok (.iload_n 1, 1) := by decide +kernel
theorem dX4_findPolynomial_5 : decode cX4_findPolynomial 5 = .ok (.iaload, 1) := by decide +kernel
theorem dX4_findPolynomial_6 : decode cX4_findPolynomial 6 = .ok (.istore_n 2, 1) := by decide +kernel
theorem dX4_findPolynomial_7 : decode cX4_findPolynomial 7 = .ok (.aload_n 0, 1) := by decide +kernel
theorem dX4_findPolynomial_8 : decode cX4_findPolynomial 8 = .ok (.getfield 16, 3) := by decide +kernel
theorem dX4_findPolynomial_11 : decode cX4_findPolynomial 11 = .ok (.iload_n 1, 1) := by decide +kernel
theorem dX4_findPolynomial_12 : decode cX4_findPolynomial 12 = .ok (.iaload, 1) := by decide +kernel
theorem dX4_findPolynomial_13 : decode cX4_findPolynomial 13 = .ok (.istore_n 3, 1) := by decide +kernel
theorem dX4_findPolynomial_14 : decode cX4_findPolynomial 14 = .ok (.iconst 0, 1) := by decide +kernel
theorem dX4_findPolynomial_15 : decode cX4_findPolynomial 15 = .ok (.istore 4, 2) := by decide +kernel
theorem dX4_findPolynomial_17 : decode cX4_findPolynomial 17 = .ok (.iload 4, 2) := by decide +kernel
theorem dX4_findPolynomial_19 : decode cX4_findPolynomial 19 = .ok (.sipush 220, 3) := by decide +kernel
theorem dX4_findPolynomial_22 : decode cX4_findPolynomial 22 = .ok (.if_icmp .ge 17, 3) := by decide +kernel
theorem dX4_findPolynomial_25 : decode cX4_findPolynomial 25 = .ok (.aload_n 0, 1) := by decide +kernel
theorem dX4_findPolynomial_26 : decode cX4_findPolynomial 26 = .ok (.getfield 41, 3) := by decide +kernel
theorem dX4_findPolynomial_29 : decode cX4_findPolynomial 29 = .ok (.iload 4, 2) := by decide +kernel
theorem dX4_findPolynomial_31 : decode cX4_findPolynomial 31 = .ok (.lconst 0, 1) := by decide +kernel
theorem dX4_findPolynomial_32 : decode cX4_findPolynomial 32 = .ok (.lastore, 1) := by decide +kernel
theorem dX4_findPolynomial_33 : decode cX4_findPolynomial 33 = .ok (.iinc 4 1, 3) := by decide +kernel
theorem dX4_findPolynomial_36 : decode cX4_findPolynomial 36 = .ok (.goto (-19), 3) := by decide +kernel
theorem dX4_findPolynomial_39 : decode cX4_findPolynomial 39 = .ok (.aload_n 0, 1) := by decide +kernel
theorem dX4_findPolynomial_40 : decode cX4_findPolynomial 40 = .ok (.aload_n 0, 1) := by decide +kernel
theorem dX4_findPolynomial_41 : decode cX4_findPolynomial 41 = .ok (.getfield 7, 3) := by decide +kernel
theorem dX4_findPolynomial_44 : decode cX4_findPolynomial 44 = .ok (.iload_n 1, 1) := by decide +kernel
theorem dX4_findPolynomial_45 : decode cX4_findPolynomial 45 = .ok (.iaload, 1) := by decide +kernel
theorem dX4_findPolynomial_46 : decode cX4_findPolynomial 46 = .ok (.ifCond .lt 29, 3) := by decide +kernel
theorem dX4_findPolynomial_49 : decode cX4_findPolynomial 49 = .ok (.aload_n 0, 1) := by decide +kernel
theorem dX4_findPolynomial_50 : decode cX4_findPolynomial 50 = .ok (.getfield 25, 3) := by decide +kernel
theorem dX4_findPolynomial_53 : decode cX4_findPolynomial 53 = .ok (.iload_n 2, 1) := by decide +kernel
theorem dX4_findPolynomial_54 : decode cX4_findPolynomial 54 = .ok (.baload, 1) := by decide +kernel
theorem dX4_findPolynomial_55 : decode cX4_findPolynomial 55 = .ok (.ifCond .ne 16, 3) := by decide +kernel
theorem dX4_findPolynomial_58 : decode cX4_findPolynomial 58 = .ok (.iload_n 3, 1) := by decide +kernel
theorem dX4_findPolynomial_59 : decode cX4_findPolynomial 59 = .ok (.ifCond .lt 16, 3) := by decide +kernel
theorem dX4_findPolynomial_62 : decode cX4_findPolynomial 62 = .ok (.aload_n 0, 1) := by decide +kernel
theorem dX4_findPolynomial_63 : decode cX4_findPolynomial 63 = .ok (.getfield 25, 3) := by decide +kernel
theorem dX4_findPolynomial_66 : decode cX4_findPolynomial 66 = .ok (.iload_n 3, 1) := by decide +kernel
theorem dX4_findPolynomial_67 : decode cX4_findPolynomial 67 = .ok (.baload, 1) := by decide +kernel
theorem dX4_findPolynomial_68 : decode cX4_findPolynomial 68 = .ok (.ifCond .eq 7, 3) := by decide +kernel
theorem dX4_findPolynomial_71 : decode cX4_findPolynomial 71 = .ok (.iconst 1, 1) := by decide +kernel
theorem dX4_findPolynomial_72 : decode cX4_findPolynomial 72 = .ok (.goto 4, 3) := by decide +kernel
theorem dX4_findPolynomial_75 : decode cX4_findPolynomial 75 = .ok (.iconst 0, 1) := by decide +kernel
theorem dX4_findPolynomial_76 : decode cX4_findPolynomial 76 = .ok (.putfield 95, 3) := by decide +kernel
theorem dX4_findPolynomial_79 : decode cX4_findPolynomial 79 = .ok (.aload_n 0, 1) := by decide +kernel
theorem dX4_findPolynomial_80 : decode cX4_findPolynomial 80 = .ok (.getfield 7, 3) := by decide +kernel
theorem dX4_findPolynomial_83 : decode cX4_findPolynomial 83 = .ok (.iload_n 1, 1) := by decide +kernel
theorem dX4_findPolynomial_84 : decode cX4_findPolynomial 84 = .ok (.iaload, 1) := by decide +kernel
theorem dX4_findPolynomial_85 : decode cX4_findPolynomial 85 = .ok (.tableswitch 237 (-2) 4 #[85, 43, 96, 96, 177, 186, 195], 43) := by decide +kernel
theorem dX4_findPolynomial_128 : decode cX4_findPolynomial 128 = .ok (.aload_n 0, 1) := by decide +kernel
theorem dX4_findPolynomial_129 : decode cX4_findPolynomial 129 = .ok (.getfield 41, 3) := by decide +kernel
theorem dX4_findPolynomial_132 : decode cX4_findPolynomial 132 = .ok (.iload_n 2, 1) := by decide +kernel
theorem dX4_findPolynomial_133 : decode cX4_findPolynomial 133 = .ok (.ifCond .ne 12, 3) := by decide +kernel
theorem dX4_findPolynomial_136 : decode cX4_findPolynomial 136 = .ok (.iconst 1, 1) := by decide +kernel
theorem dX4_findPolynomial_137 : decode cX4_findPolynomial 137 = .ok (.iconst 0, 1) := by decide +kernel
theorem dX4_findPolynomial_138 : decode cX4_findPolynomial 138 = .ok (.iconst 0, 1) := by decide +kernel
theorem dX4_findPolynomial_139 : decode cX4_findPolynomial 139 = .ok (.invokestatic 99, 3) := by decide +kernel
theorem dX4_findPolynomial_142 : decode cX4_findPolynomial 142 = .ok (.goto 23, 3) := by decide +kernel
theorem dX4_findPolynomial_145 : decode cX4_findPolynomial 145 = .ok (.iload_n 2, 1) := by decide +kernel
theorem dX4_findPolynomial_146 : decode cX4_findPolynomial 146 = .ok (.iconst 1, 1) := by decide +kernel
theorem dX4_findPolynomial_147 : decode cX4_findPolynomial 147 = .ok (.if_icmp .ne 12, 3) := by decide +kernel
theorem dX4_findPolynomial_150 : decode cX4_findPolynomial 150 = .ok (.iconst 0, 1) := by decide +kernel
theorem dX4_findPolynomial_151 : decode cX4_findPolynomial 151 = .ok (.iconst 1, 1) := by decide +kernel
theorem dX4_findPolynomial_152 : decode cX4_findPolynomial 152 = .ok (.iconst 0, 1) := by decide +kernel
theorem dX4_findPolynomial_153 : decode cX4_findPolynomial 153 = .ok (.invokestatic 99, 3) := by decide +kernel
theorem dX4_findPolynomial_156 : decode cX4_findPolynomial 156 = .ok (.goto 9, 3) := by decide +kernel
theorem dX4_findPolynomial_159 : decode cX4_findPolynomial 159 = .ok (.iconst 0, 1) := by decide +kernel
theorem dX4_findPolynomial_160 : decode cX4_findPolynomial 160 = .ok (.iconst 0, 1) := by decide +kernel
theorem dX4_findPolynomial_161 : decode cX4_findPolynomial 161 = .ok (.iconst 1, 1) := by decide +kernel
theorem dX4_findPolynomial_162 : decode cX4_findPolynomial 162 = .ok (.invokestatic 99, 3) := by decide +kernel
theorem dX4_findPolynomial_165 : decode cX4_findPolynomial 165 = .ok (.lconst 1, 1) := by decide +kernel
theorem dX4_findPolynomial_166 : decode cX4_findPolynomial 166 = .ok (.lastore, 1) := by decide +kernel
theorem dX4_findPolynomial_167 : decode cX4_findPolynomial 167 = .ok (.goto 227, 3) := by decide +kernel
theorem dX4_findPolynomial_170 : decode cX4_findPolynomial 170 = .ok (.aload_n 0, 1) := by decide +kernel
theorem dX4_findPolynomial_171 : decode cX4_findPolynomial 171 = .ok (.getfield 41, 3) := by decide +kernel
theorem dX4_findPolynomial_174 : decode cX4_findPolynomial 174 = .ok (.iconst 0, 1) := by decide +kernel
theorem dX4_findPolynomial_175 : decode cX4_findPolynomial 175 = .ok (.iload_n 2, 1) := by decide +kernel
theorem dX4_findPolynomial_176 : decode cX4_findPolynomial 176 = .ok (.i2l, 1) := by decide +kernel
theorem dX4_findPolynomial_177 : decode cX4_findPolynomial 177 = .ok (.lastore, 1) := by decide +kernel
theorem dX4_findPolynomial_178 : decode cX4_findPolynomial 178 = .ok (.goto 216, 3) := by decide +kernel
theorem dX4_findPolynomial_181 : decode cX4_findPolynomial 181 = .ok (.iconst 0, 1) := by decide +kernel
theorem dX4_findPolynomial_182 : decode cX4_findPolynomial 182 = .ok (.istore 4, 2) := by decide +kernel
theorem dX4_findPolynomial_184 : decode cX4_findPolynomial 184 = .ok (.iload 4, 2) := by decide +kernel
theorem dX4_findPolynomial_186 : decode cX4_findPolynomial 186 = .ok (.sipush 220, 3) := by decide +kernel
theorem dX4_findPolynomial_189 : decode cX4_findPolynomial 189 = .ok (.if_icmp .ge 70, 3) := by decide +kernel
theorem dX4_findPolynomial_192 : decode cX4_findPolynomial 192 = .ok (.aload_n 0, 1) := by decide +kernel
theorem dX4_findPolynomial_193 : decode cX4_findPolynomial 193 = .ok (.getfield 41, 3) := by decide +kernel
theorem dX4_findPolynomial_196 : decode cX4_findPolynomial 196 = .ok (.iload 4, 2) := by decide +kernel
theorem dX4_findPolynomial_198 : decode cX4_findPolynomial 198 = .ok (.aload_n 0, 1) := by decide +kernel
theorem dX4_findPolynomial_199 : decode cX4_findPolynomial 199 = .ok (.getfield 22, 3) := by decide +kernel
theorem dX4_findPolynomial_202 : decode cX4_findPolynomial 202 = .ok (.sipush 220, 3) := by decide +kernel
theorem dX4_findPolynomial_205 : decode cX4_findPolynomial 205 = .ok (.iload_n 2, 1) := by decide +kernel
theorem dX4_findPolynomial_206 : decode cX4_findPolynomial 206 = .ok (.imul, 1) := by decide +kernel
theorem dX4_findPolynomial_207 : decode cX4_findPolynomial 207 = .ok (.iload 4, 2) := by decide +kernel
theorem dX4_findPolynomial_209 : decode cX4_findPolynomial 209 = .ok (.iadd, 1) := by decide +kernel
theorem dX4_findPolynomial_210 : decode cX4_findPolynomial 210 = .ok (.iaload, 1) := by decide +kernel
theorem dX4_findPolynomial_211 : decode cX4_findPolynomial 211 = .ok (.aload_n 0, 1) := by decide +kernel
theorem dX4_findPolynomial_212 : decode cX4_findPolynomial 212 = .ok (.getfield 7, 3) := by decide +kernel
theorem dX4_findPolynomial_215 : decode cX4_findPolynomial 215 = .ok (.iload_n 1, 1) := by decide +kernel
theorem dX4_findPolynomial_216 : decode cX4_findPolynomial 216 = .ok (.iaload, 1) := by decide +kernel
theorem dX4_findPolynomial_217 : decode cX4_findPolynomial 217 = .ok (.ifCond .ne 19, 3) := by decide +kernel
theorem dX4_findPolynomial_220 : decode cX4_findPolynomial 220 = .ok (.aload_n 0, 1) := by decide +kernel
theorem dX4_findPolynomial_221 : decode cX4_findPolynomial 221 = .ok (.getfield 22, 3) := by decide +kernel
theorem dX4_findPolynomial_224 : decode cX4_findPolynomial 224 = .ok (.sipush 220, 3) := by decide +kernel
theorem dX4_findPolynomial_227 : decode cX4_findPolynomial 227 = .ok (.iload_n 3, 1) := by decide +kernel
theorem dX4_findPolynomial_228 : decode cX4_findPolynomial 228 = .ok (.imul, 1) := by decide +kernel
theorem dX4_findPolynomial_229 : decode cX4_findPolynomial 229 = .ok (.iload 4, 2) := by decide +kernel
theorem dX4_findPolynomial_231 : decode cX4_findPolynomial 231 = .ok (.iadd, 1) := by decide +kernel
theorem dX4_findPolynomial_232 : decode cX4_findPolynomial 232 = .ok (.iaload, 1) := by decide +kernel
theorem dX4_findPolynomial_233 : decode cX4_findPolynomial 233 = .ok (.goto 17, 3) := by decide +kernel
theorem dX4_findPolynomial_236 : decode cX4_findPolynomial 236 = .ok (.aload_n 0, 1) := by decide +kernel
theorem dX4_findPolynomial_237 : decode cX4_findPolynomial 237 = .ok (.getfield 22, 3) := by decide +kernel
theorem dX4_findPolynomial_240 : decode cX4_findPolynomial 240 = .ok (.sipush 220, 3) := by decide +kernel
theorem dX4_findPolynomial_243 : decode cX4_findPolynomial 243 = .ok (.iload_n 3, 1) := by decide +kernel
theorem dX4_findPolynomial_244 : decode cX4_findPolynomial 244 = .ok (.imul, 1) := by decide +kernel
theorem dX4_findPolynomial_245 : decode cX4_findPolynomial 245 = .ok (.iload 4, 2) := by decide +kernel
theorem dX4_findPolynomial_247 : decode cX4_findPolynomial 247 = .ok (.iadd, 1) := by decide +kernel
theorem dX4_findPolynomial_248 : decode cX4_findPolynomial 248 = .ok (.iaload, 1) := by decide +kernel
theorem dX4_findPolynomial_249 : decode cX4_findPolynomial 249 = .ok (.ineg, 1) := by decide +kernel
theorem dX4_findPolynomial_250 : decode cX4_findPolynomial 250 = .ok (.iadd, 1) := by decide +kernel
theorem dX4_findPolynomial_251 : decode cX4_findPolynomial 251 = .ok (.i2l, 1) := by decide +kernel
theorem dX4_findPolynomial_252 : decode cX4_findPolynomial 252 = .ok (.lastore, 1) := by decide +kernel
theorem dX4_findPolynomial_253 : decode cX4_findPolynomial 253 = .ok (.iinc 4 1, 3) := by decide +kernel
theorem dX4_findPolynomial_256 : decode cX4_findPolynomial 256 = .ok (.goto (-72), 3) := by decide +kernel
theorem dX4_findPolynomial_259 : decode cX4_findPolynomial 259 = .ok (.goto 135, 3) := by decide +kernel
theorem dX4_findPolynomial_262 : decode cX4_findPolynomial 262 = .ok (.aload_n 0, 1) := by decide +kernel
theorem dX4_findPolynomial_263 : decode cX4_findPolynomial 263 = .ok (.iload_n 2, 1) := by decide +kernel
theorem dX4_findPolynomial_264 : decode cX4_findPolynomial 264 = .ok (.iload_n 3, 1) := by decide +kernel
theorem dX4_findPolynomial_265 : decode cX4_findPolynomial 265 = .ok (.invokevirtual 103, 3) := by decide +kernel
theorem dX4_findPolynomial_268 : decode cX4_findPolynomial 268 = .ok (.goto 126, 3) := by decide +kernel
theorem dX4_findPolynomial_271 : decode cX4_findPolynomial 271 = .ok (.aload_n 0, 1) := by decide +kernel
theorem dX4_findPolynomial_272 : decode cX4_findPolynomial 272 = .ok (.iload_n 2, 1) := by decide +kernel
theorem dX4_findPolynomial_273 : decode cX4_findPolynomial 273 = .ok (.iload_n 2, 1) := by decide +kernel
theorem dX4_findPolynomial_274 : decode cX4_findPolynomial 274 = .ok (.invokevirtual 103, 3) := by decide +kernel
theorem dX4_findPolynomial_277 : decode cX4_findPolynomial 277 = .ok (.goto 117, 3) := by decide +kernel
theorem dX4_findPolynomial_280 : decode cX4_findPolynomial 280 = .ok (.iconst 0, 1) := by decide +kernel
theorem dX4_findPolynomial_281 : decode cX4_findPolynomial 281 = .ok (.istore 4, 2) := by decide +kernel
