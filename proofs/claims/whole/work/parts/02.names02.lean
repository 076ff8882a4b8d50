theorem dX1_isZero_30 : decode cX1_isZero 30 = .ok (.getfield 26, 3) := by decide +kernel
theorem dX1_isZero_33 : decode cX1_isZero 33 = .ok (.ifCond .ne 7, 3) := by decide +kernel
theorem dX1_isZero_36 : decode cX1_isZero 36 = .ok (.iconst 1, 1) := by decide +kernel
theorem dX1_isZero_37 : decode cX1_isZero 37 = .ok (.goto 4, 3) := by decide +kernel
theorem dX1_isZero_40 : decode cX1_isZero 40 = .ok (.iconst 0, 1) := by decide +kernel
theorem dX1_isZero_41 : decode cX1_isZero 41 = .ok (.ireturn, 1) := by decide +kernel
set_option maxRecDepth 20000 in
theorem ggX1_copyTo_X0_becomeZero : GoodIn wsX1_copyTo wsX0_becomeZero := goodIn_r _ [8, 9, 10, 11, 38, 39, 40, 41, 42] (by decide +kernel) (by decide +kernel)
set_option maxRecDepth 20000 in
theorem gX1_copyTo_X0_becomeZero_n57 : GoodIn wsX1_copyTo (wsX0_becomeZero) := ggX1_copyTo_X0_becomeZero
set_option maxRecDepth 20000 in
theorem ggX1_copyTo_X0_append : GoodIn wsX1_copyTo wsX0_append := goodIn_r _ [14, 11, 9, 15, 16, 17, 18, 10, 19, 20, 21, 22, 23, 24, 25, 6, 26, 27, 28, 29, 30, 31, 32, 38, 39, 40, 41, 42] (by decide +kernel) (by decide +kernel)
set_option maxRecDepth 20000 in
theorem gX1_copyTo_X0_append_n60 : GoodIn wsX1_copyTo (wsX0_append) := ggX1_copyTo_X0_append
set_option maxRecDepth 20000 in
theorem ggX1_copyTo_X0_becomeTooGreat : GoodIn wsX1_copyTo wsX0_becomeTooGreat := goodIn_r _ [26, 9, 10, 11, 38, 39, 40, 41, 42] (by decide +kernel) (by decide +kernel)
set_option maxRecDepth 20000 in
theorem gX1_copyTo_X0_becomeTooGreat_n63 : GoodIn wsX1_copyTo (wsX0_becomeTooGreat) := ggX1_copyTo_X0_becomeTooGreat
theorem dX1_copyTo_0 : decode cX1_copyTo 0 = .ok (.aload_n 1, 1) := by decide +kernel
theorem dX1_copyTo_1 : decode cX1_copyTo 1 = .ok (.invokevirtual 57, 3) := by decide +kernel
theorem dX1_copyTo_4 : decode cX1_copyTo 4 = .ok (.iconst 0, 1) := by decide +kernel
theorem dX1_copyTo_5 : decode cX1_copyTo 5 = .ok (.istore_n 2, 1) := by decide +kernel
theorem dX1_copyTo_6 : decode cX1_copyTo 6 = .ok (.iload_n 2, 1) := by decide +kernel
theorem dX1_copyTo_7 : decode cX1_copyTo 7 = .ok (.aload_n 0, 1) := by decide +kernel
theorem dX1_copyTo_8 : decode cX1_copyTo 8 = .ok (.getfield 22, 3) := by decide +kernel
theorem dX1_copyTo_11 : decode cX1_copyTo 11 = .ok (.if_icmp .ge 25, 3) := by decide +kernel
theorem dX1_copyTo_14 : decode cX1_copyTo 14 = .ok (.aload_n 1, 1) := by decide +kernel
theorem dX1_copyTo_15 : decode cX1_copyTo 15 = .ok (.aload_n 0, 1) := by decide +kernel
theorem dX1_copyTo_16 : decode cX1_copyTo 16 = .ok (.getfield 15, 3) := by decide +kernel
theorem dX1_copyTo_19 : decode cX1_copyTo 19 = .ok (.iload_n 2, 1) := by decide +kernel
theorem dX1_copyTo_20 : decode cX1_copyTo 20 = .ok (.iaload, 1) := by decide +kernel
theorem dX1_copyTo_21 : decode cX1_copyTo 21 = .ok (.aload_n 0, 1) := by decide +kernel
theorem dX1_copyTo_22 : decode cX1_copyTo 22 = .ok (.getfield 18, 3) := by decide +kernel
theorem dX1_copyTo_25 : decode cX1_copyTo 25 = .ok (.iload_n 2, 1) := by decide +kernel
theorem dX1_copyTo_26 : decode cX1_copyTo 26 = .ok (.laload, 1) := by decide +kernel
theorem dX1_copyTo_27 : decode cX1_copyTo 27 = .ok (.invokevirtual 60, 3) := by decide +kernel
theorem dX1_copyTo_30 : decode cX1_copyTo 30 = .ok (.iinc 2 1, 3) := by decide +kernel
theorem dX1_copyTo_33 : decode cX1_copyTo 33 = .ok (.goto (-27), 3) := by decide +kernel
theorem dX1_copyTo_36 : decode cX1_copyTo 36 = .ok (.aload_n 0, 1) := by decide +kernel
theorem dX1_copyTo_37 : decode cX1_copyTo 37 = .ok (.getfield 26, 3) := by decide +kernel
theorem dX1_copyTo_40 : decode cX1_copyTo 40 = .ok (.ifCond .eq 7, 3) := by decide +kernel
theorem dX1_copyTo_43 : decode cX1_copyTo 43 = .ok (.aload_n 1, 1) := by decide +kernel
theorem dX1_copyTo_44 : decode cX1_copyTo 44 = .ok (.invokevirtual 63, 3) := by decide +kernel
theorem dX1_copyTo_47 : decode cX1_copyTo 47 = .ok (.return_, 1) := by decide +kernel
set_option maxRecDepth 20000 in
theorem ggX2_init_X0_init : GoodIn wsX2_init wsX0_init := goodIn_r _ [9, 10, 2, 3, 11, 12, 13, 14, 15, 16, 17, 18] (by decide +kernel) (by decide +kernel)
set_option maxRecDepth 20000 in
theorem gX2_init_X0_init_n9 : GoodIn wsX2_init (wsX0_init) := ggX2_init_X0_init
theorem dX2_init_0 : decode cX2_init 0 = .ok (.aload_n 0, 1) := by decide +kernel
theorem dX2_init_1 : decode cX2_init 1 = .ok (.invokespecial 1, 3) := by decide +kernel
theorem dX2_init_4 : decode cX2_init 4 = .ok (.aload_n 0, 1) := by decide +kernel
theorem dX2_init_5 : decode cX2_init 5 = .ok (.new 7, 3) := by decide +kernel
theorem dX2_init_8 : decode cX2_init 8 = .ok (.dup, 1) := by decide +kernel
theorem dX2_init_9 : decode cX2_init 9 = .ok (.invokespecial 9, 3) := by decide +kernel
theorem dX2_init_12 : decode cX2_init 12 = .ok (.putfield 10, 3) := by decide +kernel
theorem dX2_init_15 : decode cX2_init 15 = .ok (.return_, 1) := by decide +kernel
set_option maxRecDepth 20000 in
theorem ggX3_init_X1_init : GoodIn wsX3_init wsX1_init := goodIn_r _ [20, 21, 2, 3, 7, 22, 23, 24, 25, 37, 38, 39, 40, 41] (by decide +kernel) (by decide +kernel)
set_option maxRecDepth 20000 in
theorem gX3_init_X1_init_n22 : GoodIn wsX3_init (wsX1_init) := ggX3_init_X1_init
set_option maxRecDepth 20000 in
theorem ggX3_init_X0_init : GoodIn wsX3_init wsX0_init := goodIn_r _ [27, 28, 2, 3, 7, 29, 30, 42, 43, 44, 45, 46] (by decide +kernel) (by decide +kernel)
set_option maxRecDepth 20000 in
theorem gX3_init_X0_init_n29 : GoodIn wsX3_init (wsX0_init) := ggX3_init_X0_init
theorem dX3_init_0 : decode cX3_init 0 = .ok (.aload_n 0, 1) := by decide +kernel
theorem dX3_init_1 : decode cX3_init 1 = .ok (.invokespecial 1, 3) := by decide +kernel
theorem dX3_init_4 : decode cX3_init 4 = .ok (.aload_n 0, 1) := by decide +kernel
theorem dX3_init_5 : decode cX3_init 5 = .ok (.bipush 120, 2) := by decide +kernel
theorem dX3_init_7 : decode cX3_init 7 = .ok (.anewarray 9, 3) := by decide +kernel
theorem dX3_init_10 : decode cX3_init 10 = .ok (.putfield 11, 3) := by decide +kernel
theorem dX3_init_13 : decode cX3_init 13 = .ok (.aload_n 0, 1) := by decide +kernel
theorem dX3_init_14 : decode cX3_init 14 = .ok (.bipush 60, 2) := by decide +kernel
theorem dX3_init_16 : decode cX3_init 16 = .ok (.bipush 8, 2) := by decide +kernel
theorem dX3_init_18 : decode cX3_init 18 = .ok (.multianewarray 15 2, 4) := by decide +kernel
theorem dX3_init_22 : decode cX3_init 22 = .ok (.putfield 17, 3) := by decide +kernel
theorem dX3_init_25 : decode cX3_init 25 = .ok (.aload_n 0, 1) := by decide +kernel
theorem dX3_init_26 : decode cX3_init 26 = .ok (.new 20, 3) := by decide +kernel
theorem dX3_init_29 : decode cX3_init 29 = .ok (.dup, 1) := by decide +kernel
theorem dX3_init_30 : decode cX3_init 30 = .ok (.invokespecial 22, 3) := by decide +kernel
theorem dX3_init_33 : decode cX3_init 33 = .ok (.putfield 23, 3) := by decide +kernel
theorem dX3_init_36 : decode cX3_init 36 = .ok (.aload_n 0, 1) := by decide +kernel
theorem dX3_init_37 : decode cX3_init 37 = .ok (.new 27, 3) := by decide +kernel
theorem dX3_init_40 : decode cX3_init 40 = .ok (.dup, 1) := by decide +kernel
theorem dX3_init_41 : decode cX3_init 41 = .ok (.invokespecial 29, 3) := by decide +kernel
theorem dX3_init_44 : decode cX3_init 44 = .ok (.putfield 30, 3) := by decide +kernel
theorem dX3_init_47 : decode cX3_init 47 = .ok (.aload_n 0, 1) := by decide +kernel
theorem dX3_init_48 : decode cX3_init 48 = .ok (.iconst 0, 1) := by decide +kernel
theorem dX3_init_49 : decode cX3_init 49 = .ok (.putfield 34, 3) := by decide +kernel
theorem dX3_init_52 : decode cX3_init 52 = .ok (.aload_n 0, 1) := by decide +kernel
theorem dX3_init_53 : decode cX3_init 53 = .ok (.iconst 0, 1) := by decide +kernel
theorem dX3_init_54 : decode cX3_init 54 = .ok (.putfield 38, 3) := by decide +kernel
theorem dX3_init_57 : decode cX3_init 57 = .ok (.return_, 1) := by decide +kernel
set_option maxRecDepth 20000 in
theorem ggX3_leaf_X3_isLetter : GoodIn wsX3_leaf wsX3_isLetter := goodIn_r _ [6] (by decide +kernel) (by decide +kernel)
set_option maxRecDepth 20000 in
theorem gX3_leaf_X3_isLetter : GoodIn wsX3_leaf (va_wsS RX3 41 yX3_isLetter wsX3_isLetter) := goodIn_app (goodIn_of _ (by decide +kernel)) ggX3_leaf_X3_isLetter
set_option maxRecDepth 20000 in
theorem ggX3_leaf_X3_nextTree : GoodIn wsX3_leaf wsX3_nextTree := goodIn_ca (goodIn_r _ [10, 11, 12, 13, 14, 15, 16, 17, 18, 19, 20, 21, 22, 23, 24, 25, 26, 27, 28, 29, 30, 31, 32, 78, 79, 80, 81, 82, 83, 72, 73, 74, 75, 76, 77, 84, 85, 86, 87, 88] (by decide +kernel) (by decide +kernel)) (goodIn_sub (fun _ h => List.mem_cons_of_mem _ (List.mem_append_right _ h)) (by decide +kernel))
set_option maxRecDepth 20000 in
theorem gX3_leaf_X3_nextTree : GoodIn wsX3_leaf (wsV RX3 52 RX3 yX3_nextTree wsX3_nextTree) := goodIn_app (goodIn_of _ (by decide +kernel)) ggX3_leaf_X3_nextTree
set_option maxRecDepth 20000 in
theorem ggX3_leaf_X0_becomeZero : GoodIn wsX3_leaf wsX0_becomeZero := goodIn_r _ [35, 36, 37, 38, 84, 85, 86, 87, 88] (by decide +kernel) (by decide +kernel)
set_option maxRecDepth 20000 in
theorem gX3_leaf_X0_becomeZero_n59 : GoodIn wsX3_leaf (wsX0_becomeZero) := ggX3_leaf_X0_becomeZero
set_option maxRecDepth 20000 in
theorem ggX3_leaf_X3_keyOfLetter : GoodIn wsX3_leaf wsX3_keyOfLetter := goodIn_r _ [41] (by decide +kernel) (by decide +kernel)
set_option maxRecDepth 20000 in
theorem gX3_leaf_X3_keyOfLetter : GoodIn wsX3_leaf (va_wsS RX3 62 yX3_keyOfLetter wsX3_keyOfLetter) := goodIn_app (goodIn_of _ (by decide +kernel)) ggX3_leaf_X3_keyOfLetter
set_option maxRecDepth 20000 in
theorem ggX3_leaf_X0_append : GoodIn wsX3_leaf wsX0_append := goodIn_r _ [44, 38, 36, 45, 46, 31, 32, 37, 47, 48, 49, 50, 51, 52, 53, 25, 54, 55, 5, 56, 57, 58, 59, 84, 85, 86, 87, 88] (by decide +kernel) (by decide +kernel)
set_option maxRecDepth 20000 in
theorem gX3_leaf_X0_append_n66 : GoodIn wsX3_leaf (wsX0_append) := ggX3_leaf_X0_append
set_option maxRecDepth 20000 in
theorem ggX3_leaf_X3_keep : GoodIn wsX3_leaf wsX3_keep := goodIn_r _ [63, 13, 64, 65, 66, 5, 67, 68, 69, 70, 71, 14, 72, 73, 74, 75, 76, 77, 78, 79, 80, 81, 82, 83] (by decide +kernel) (by decide +kernel)
set_option maxRecDepth 20000 in
theorem gX3_leaf_X3_keep : GoodIn wsX3_leaf (wsV RX3 70 RX3 yX3_keep wsX3_keep) := goodIn_app (goodIn_of _ (by decide +kernel)) ggX3_leaf_X3_keep
theorem dX3_leaf_0 : decode cX3_leaf 0 = .ok (.iload_n 1, 1) := by decide +kernel
theorem dX3_leaf_1 : decode cX3_leaf 1 = .ok (.invokestatic 41, 3) := by decide +kernel
theorem dX3_leaf_4 : decode cX3_leaf 4 = .ok (.ifCond .ne 13, 3) := by decide +kernel
theorem dX3_leaf_7 : decode cX3_leaf 7 = .ok (.new 45, 3) := by decide +kernel
theorem dX3_leaf_10 : decode cX3_leaf 10 = .ok (.dup, 1) := by decide +kernel
theorem dX3_leaf_11 : decode cX3_leaf 11 = .ok (.ldc 47, 2) := by decide +kernel
theorem dX3_leaf_13 : decode cX3_leaf 13 = .ok (.invokespecial 49, 3) := by decide +kernel
theorem dX3_leaf_16 : decode cX3_leaf 16 = .ok (.athrow, 1) := by decide +kernel
theorem dX3_leaf_17 : decode cX3_leaf 17 = .ok (.aload_n 0, 1) := by decide +kernel
theorem dX3_leaf_18 : decode cX3_leaf 18 = .ok (.invokevirtual 52, 3) := by decide +kernel
theorem dX3_leaf_21 : decode cX3_leaf 21 = .ok (.astore_n 2, 1) := by decide +kernel
theorem dX3_leaf_22 : decode cX3_leaf 22 = .ok (.aload_n 2, 1) := by decide +kernel
theorem dX3_leaf_23 : decode cX3_leaf 23 = .ok (.getfield 56, 3) := by decide +kernel
theorem dX3_leaf_26 : decode cX3_leaf 26 = .ok (.invokevirtual 59, 3) := by decide +kernel
theorem dX3_leaf_29 : decode cX3_leaf 29 = .ok (.aload_n 2, 1) := by decide +kernel
theorem dX3_leaf_30 : decode cX3_leaf 30 = .ok (.getfield 56, 3) := by decide +kernel
theorem dX3_leaf_33 : decode cX3_leaf 33 = .ok (.iload_n 1, 1) := by decide +kernel
theorem dX3_leaf_34 : decode cX3_leaf 34 = .ok (.invokestatic 62, 3) := by decide +kernel
theorem dX3_leaf_37 : decode cX3_leaf 37 = .ok (.lconst 1, 1) := by decide +kernel
theorem dX3_leaf_38 : decode cX3_leaf 38 = .ok (.invokevirtual 66, 3) := by decide +kernel
theorem dX3_leaf_41 : decode cX3_leaf 41 = .ok (.aload_n 0, 1) := by decide +kernel
theorem dX3_leaf_42 : decode cX3_leaf 42 = .ok (.aload_n 2, 1) := by decide +kernel
theorem dX3_leaf_43 : decode cX3_leaf 43 = .ok (.bipush 6, 2) := by decide +kernel
theorem dX3_leaf_45 : decode cX3_leaf 45 = .ok (.iload_n 1, 1) := by decide +kernel
theorem dX3_leaf_46 : decode cX3_leaf 46 = .ok (.iconst (-1), 1) := by decide +kernel
theorem dX3_leaf_47 : decode cX3_leaf 47 = .ok (.iconst 0, 1) := by decide +kernel
theorem dX3_leaf_48 : decode cX3_leaf 48 = .ok (.invokevirtual 70, 3) := by decide +kernel
theorem dX3_leaf_51 : decode cX3_leaf 51 = .ok (.ireturn, 1) := by decide +kernel
set_option maxRecDepth 20000 in
theorem ggX3_number_X3_nextTree : GoodIn wsX3_number wsX3_nextTree := goodIn_ca (goodIn_r _ [9, 10, 11, 12, 13, 14, 15, 16, 17, 18, 19, 20, 21, 22, 23, 24, 25, 26, 27, 28, 29, 30, 31, 74, 75, 76, 77, 78, 79, 68, 69, 70, 71, 72, 73, 80, 81, 82, 83, 84] (by decide +kernel) (by decide +kernel)) (goodIn_sub (fun _ h => List.mem_cons_of_mem _ (List.mem_append_right _ h)) (by decide +kernel))
set_option maxRecDepth 20000 in
theorem gX3_number_X3_nextTree : GoodIn wsX3_number (wsV RX3 52 RX3 yX3_nextTree wsX3_nextTree) := goodIn_app (goodIn_of _ (by decide +kernel)) ggX3_number_X3_nextTree
set_option maxRecDepth 20000 in
theorem ggX3_number_X0_becomeZero : GoodIn wsX3_number wsX0_becomeZero := goodIn_r _ [34, 35, 36, 37, 80, 81, 82, 83, 84] (by decide +kernel) (by decide +kernel)
set_option maxRecDepth 20000 in
theorem gX3_number_X0_becomeZero_n59 : GoodIn wsX3_number (wsX0_becomeZero) := ggX3_number_X0_becomeZero
set_option maxRecDepth 20000 in
theorem ggX3_number_X0_append : GoodIn wsX3_number wsX0_append := goodIn_r _ [40, 37, 35, 41, 42, 30, 31, 36, 43, 44, 45, 46, 47, 48, 49, 24, 50, 51, 8, 52, 53, 54, 55, 80, 81, 82, 83, 84] (by decide +kernel) (by decide +kernel)
set_option maxRecDepth 20000 in
theorem gX3_number_X0_append_n66 : GoodIn wsX3_number (wsX0_append) := ggX3_number_X0_append
set_option maxRecDepth 20000 in
theorem ggX3_number_X3_keep : GoodIn wsX3_number wsX3_keep := goodIn_r _ [59, 12, 60, 61, 62, 8, 63, 64, 65, 66, 67, 13, 68, 69, 70, 71, 72, 73, 74, 75, 76, 77, 78, 79] (by decide +kernel) (by decide +kernel)
set_option maxRecDepth 20000 in
theorem gX3_number_X3_keep : GoodIn wsX3_number (wsV RX3 70 RX3 yX3_keep wsX3_keep) := goodIn_app (goodIn_of _ (by decide +kernel)) ggX3_number_X3_keep
theorem dX3_number_0 : decode cX3_number 0 = .ok (.iload_n 1, 1) := by decide +kernel
theorem dX3_number_1 : decode cX3_number 1 = .ok (.ldc 74, 2) := by decide +kernel
theorem dX3_number_3 : decode cX3_number 3 = .ok (.if_icmp .lt 9, 3) := by decide +kernel
theorem dX3_number_6 : decode cX3_number 6 = .ok (.iload_n 1, 1) := by decide +kernel
theorem dX3_number_7 : decode cX3_number 7 = .ok (.ldc 75, 2) := by decide +kernel
theorem dX3_number_9 : decode cX3_number 9 = .ok (.if_icmp .le 13, 3) := by decide +kernel
theorem dX3_number_12 : decode cX3_number 12 = .ok (.new 45, 3) := by decide +kernel
theorem dX3_number_15 : decode cX3_number 15 = .ok (.dup, 1) := by decide +kernel
theorem dX3_number_16 : decode cX3_number 16 = .ok (.ldc 76, 2) := by decide +kernel
theorem dX3_number_18 : decode cX3_number 18 = .ok (.invokespecial 49, 3) := by decide +kernel
theorem dX3_number_21 : decode cX3_number 21 = .ok (.athrow, 1) := by decide +kernel
theorem dX3_number_22 : decode cX3_number 22 = .ok (.aload_n 0, 1) := by decide +kernel
theorem dX3_number_23 : decode cX3_number 23 = .ok (.invokevirtual 52, 3) := by decide +kernel
theorem dX3_number_26 : decode cX3_number 26 = .ok (.astore_n 2, 1) := by decide +kernel
theorem dX3_number_27 : decode cX3_number 27 = .ok (.aload_n 2, 1) := by decide +kernel
theorem dX3_number_28 : decode cX3_number 28 = .ok (.getfield 56, 3) := by decide +kernel
theorem dX3_number_31 : decode cX3_number 31 = .ok (.invokevirtual 59, 3) := by decide +kernel
theorem dX3_number_34 : decode cX3_number 34 = .ok (.aload_n 2, 1) := by decide +kernel
theorem dX3_number_35 : decode cX3_number 35 = .ok (.getfield 56, 3) := by decide +kernel
theorem dX3_number_38 : decode cX3_number 38 = .ok (.iconst 0, 1) := by decide +kernel
theorem dX3_number_39 : decode cX3_number 39 = .ok (.iload_n 1, 1) := by decide +kernel
theorem dX3_number_40 : decode cX3_number 40 = .ok (.i2l, 1) := by decide +kernel
theorem dX3_number_41 : decode cX3_number 41 = .ok (.invokevirtual 66, 3) := by decide +kernel
theorem dX3_number_44 : decode cX3_number 44 = .ok (.aload_n 0, 1) := by decide +kernel
theorem dX3_number_45 : decode cX3_number 45 = .ok (.aload_n 2, 1) := by decide +kernel
theorem dX3_number_46 : decode cX3_number 46 = .ok (.bipush 7, 2) := by decide +kernel
theorem dX3_number_48 : decode cX3_number 48 = .ok (.iload_n 1, 1) := by decide +kernel
theorem dX3_number_49 : decode cX3_number 49 = .ok (.iconst (-1), 1) := by decide +kernel
theorem dX3_number_50 : decode cX3_number 50 = .ok (.iconst 0, 1) := by decide +kernel
theorem dX3_number_51 : decode cX3_number 51 = .ok (.invokevirtual 70, 3) := by decide +kernel
theorem dX3_number_54 : decode cX3_number 54 = .ok (.ireturn, 1) := by decide +kernel
set_option maxRecDepth 20000 in
theorem ggX3_node_X3_treeAt : GoodIn wsX3_node wsX3_treeAt := goodIn_r _ [14, 15, 16, 112, 113, 114, 115, 116, 117] (by decide +kernel) (by decide +kernel)
set_option maxRecDepth 20000 in
theorem gX3_node_X3_treeAt : GoodIn wsX3_node (wsV RX3 78 RX3 yX3_treeAt wsX3_treeAt) := goodIn_app (goodIn_of _ (by decide +kernel)) ggX3_node_X3_treeAt
set_option maxRecDepth 20000 in
theorem ggX3_node_X3_nextTree : GoodIn wsX3_node wsX3_nextTree := goodIn_ca (goodIn_r _ [20, 21, 22, 15, 16, 23, 24, 25, 26, 27, 28, 29, 30, 31, 32, 33, 34, 35, 36, 37, 38, 39, 40, 112, 113, 114, 115, 116, 117, 106, 107, 108, 109, 110, 111, 118, 119, 120, 121, 122] (by decide +kernel) (by decide +kernel)) (goodIn_sub (fun _ h => List.mem_cons_of_mem _ (List.mem_append_right _ h)) (by decide +kernel))
set_option maxRecDepth 20000 in
theorem gX3_node_X3_nextTree : GoodIn wsX3_node (wsV RX3 52 RX3 yX3_nextTree wsX3_nextTree) := goodIn_app (goodIn_of _ (by decide +kernel)) ggX3_node_X3_nextTree
set_option maxRecDepth 20000 in
theorem ggX3_node_X3_workOut : GoodIn wsX3_node wsX3_workOut := goodIn_r _ [44, 45, 46, 33, 47, 48, 49, 50, 51, 52, 53, 54, 55, 56, 57, 58, 59, 60, 61, 62, 63, 64, 65, 66, 67, 68, 69, 70, 71, 72, 73, 74, 75, 76, 77, 78, 79, 80, 81, 82, 83, 84, 39, 40, 85, 7, 8, 9, 86, 87, 13, 88, 89, 90, 91, 112, 113, 114, 115, 116, 117, 118, 119, 120, 121, 122, 123, 124, 125, 126, 127] (by decide +kernel) (by decide +kernel)
set_option maxRecDepth 20000 in
theorem gX3_node_X3_workOut : GoodIn wsX3_node (wsV RX3 100 RX3 yX3_workOut wsX3_workOut) := goodIn_app (goodIn_of _ (by decide +kernel)) ggX3_node_X3_workOut
set_option maxRecDepth 20000 in
theorem ggX3_node_X3_keep : GoodIn wsX3_node wsX3_keep := goodIn_r _ [95, 15, 96, 97, 98, 13, 99, 10, 11, 12, 14, 16, 106, 107, 108, 109, 110, 111, 112, 113, 114, 115, 116, 117] (by decide +kernel) (by decide +kernel)
set_option maxRecDepth 20000 in
theorem gX3_node_X3_keep : GoodIn wsX3_node (wsV RX3 70 RX3 yX3_keep wsX3_keep) := goodIn_app (goodIn_of _ (by decide +kernel)) ggX3_node_X3_keep
theorem dX3_node_0 : decode cX3_node 0 = .ok (.aload_n 0, 1) := by decide +kernel
theorem dX3_node_1 : decode cX3_node 1 = .ok (.iload_n 2, 1) := by decide +kernel
theorem dX3_node_2 : decode cX3_node 2 = .ok (.invokevirtual 78, 3) := by decide +kernel
theorem dX3_node_5 : decode cX3_node 5 = .ok (.astore 4, 2) := by decide +kernel
theorem dX3_node_7 : decode cX3_node 7 = .ok (.aload_n 0, 1) := by decide +kernel
theorem dX3_node_8 : decode cX3_node 8 = .ok (.iload_n 3, 1) := by decide +kernel
theorem dX3_node_9 : decode cX3_node 9 = .ok (.invokevirtual 78, 3) := by decide +kernel
theorem dX3_node_12 : decode cX3_node 12 = .ok (.astore 5, 2) := by decide +kernel
theorem dX3_node_14 : decode cX3_node 14 = .ok (.iload_n 1, 1) := by decide +kernel
theorem dX3_node_15 : decode cX3_node 15 = .ok (.iconst 3, 1) := by decide +kernel
theorem dX3_node_16 : decode cX3_node 16 = .ok (.if_icmp .lt 7, 3) := by decide +kernel
theorem dX3_node_19 : decode cX3_node 19 = .ok (.iconst 1, 1) := by decide +kernel
theorem dX3_node_20 : decode cX3_node 20 = .ok (.goto 4, 3) := by decide +kernel
theorem dX3_node_23 : decode cX3_node 23 = .ok (.iconst 0, 1) := by decide +kernel
theorem dX3_node_24 : decode cX3_node 24 = .ok (.istore 6, 2) := by decide +kernel
theorem dX3_node_26 : decode cX3_node 26 = .ok (.aload 4, 2) := by decide +kernel
theorem dX3_node_28 : decode cX3_node 28 = .ok (.ifnull 18, 3) := by decide +kernel
theorem dX3_node_31 : decode cX3_node 31 = .ok (.aload 5, 2) := by decide +kernel
theorem dX3_node_33 : decode cX3_node 33 = .ok (.ifnonnull 23, 3) := by decide +kernel
theorem dX3_node_36 : decode cX3_node 36 = .ok (.iload 6, 2) := by decide +kernel
theorem dX3_node_38 : decode cX3_node 38 = .ok (.ifCond .eq 8, 3) := by decide +kernel
theorem dX3_node_41 : decode cX3_node 41 = .ok (.iload_n 3, 1) := by decide +kernel
theorem dX3_node_42 : decode cX3_node 42 = .ok (.iconst (-1), 1) := by decide +kernel
theorem dX3_node_43 : decode cX3_node 43 = .ok (.if_icmp .eq 13, 3) := by decide +kernel
theorem dX3_node_46 : decode cX3_node 46 = .ok (.new 82, 3) := by decide +kernel
theorem dX3_node_49 : decode cX3_node 49 = .ok (.dup, 1) := by decide +kernel
theorem dX3_node_50 : decode cX3_node 50 = .ok (.ldc 84, 2) := by decide +kernel
theorem dX3_node_52 : decode cX3_node 52 = .ok (.invokespecial 86, 3) := by decide +kernel
theorem dX3_node_55 : decode cX3_node 55 = .ok (.athrow, 1) := by decide +kernel
theorem dX3_node_56 : decode cX3_node 56 = .ok (.iload_n 1, 1) := by decide +kernel
theorem dX3_node_57 : decode cX3_node 57 = .ok (.ifCond .lt 18, 3) := by decide +kernel
theorem dX3_node_60 : decode cX3_node 60 = .ok (.iload_n 1, 1) := by decide +kernel
theorem dX3_node_61 : decode cX3_node 61 = .ok (.iconst 5, 1) := by decide +kernel
theorem dX3_node_62 : decode cX3_node 62 = .ok (.if_icmp .gt 13, 3) := by decide +kernel
theorem dX3_node_65 : decode cX3_node 65 = .ok (.iload 6, 2) := by decide +kernel
theorem dX3_node_67 : decode cX3_node 67 = .ok (.ifCond .eq 18, 3) := by decide +kernel
theorem dX3_node_70 : decode cX3_node 70 = .ok (.iload_n 3, 1) := by decide +kernel
theorem dX3_node_71 : decode cX3_node 71 = .ok (.iconst (-1), 1) := by decide +kernel
theorem dX3_node_72 : decode cX3_node 72 = .ok (.if_icmp .eq 13, 3) := by decide +kernel
theorem dX3_node_75 : decode cX3_node 75 = .ok (.new 45, 3) := by decide +kernel
theorem dX3_node_78 : decode cX3_node 78 = .ok (.dup, 1) := by decide +kernel
theorem dX3_node_79 : decode cX3_node 79 = .ok (.ldc 87, 2) := by decide +kernel
theorem dX3_node_81 : decode cX3_node 81 = .ok (.invokespecial 49, 3) := by decide +kernel
theorem dX3_node_84 : decode cX3_node 84 = .ok (.athrow, 1) := by decide +kernel
theorem dX3_node_85 : decode cX3_node 85 = .ok (.aload 5, 2) := by decide +kernel
theorem dX3_node_87 : decode cX3_node 87 = .ok (.ifnonnull 8, 3) := by decide +kernel
theorem dX3_node_90 : decode cX3_node 90 = .ok (.aload 4, 2) := by decide +kernel
theorem dX3_node_92 : decode cX3_node 92 = .ok (.goto 5, 3) := by decide +kernel
theorem dX3_node_95 : decode cX3_node 95 = .ok (.aload 5, 2) := by decide +kernel
theorem dX3_node_97 : decode cX3_node 97 = .ok (.astore 7, 2) := by decide +kernel
theorem dX3_node_99 : decode cX3_node 99 = .ok (.iconst 1, 1) := by decide +kernel
theorem dX3_node_100 : decode cX3_node 100 = .ok (.aload 4, 2) := by decide +kernel
theorem dX3_node_102 : decode cX3_node 102 = .ok (.getfield 89, 3) := by decide +kernel
theorem dX3_node_105 : decode cX3_node 105 = .ok (.aload 7, 2) := by decide +kernel
theorem dX3_node_107 : decode cX3_node 107 = .ok (.getfield 89, 3) := by decide +kernel
theorem dX3_node_110 : decode cX3_node 110 = .ok (.invokestatic 92, 3) := by decide +kernel
theorem dX3_node_113 : decode cX3_node 113 = .ok (.iadd, 1) := by decide +kernel
theorem dX3_node_114 : decode cX3_node 114 = .ok (.istore 8, 2) := by decide +kernel
theorem dX3_node_116 : decode cX3_node 116 = .ok (.iload 8, 2) := by decide +kernel
theorem dX3_node_118 : decode cX3_node 118 = .ok (.bipush 20, 2) := by decide +kernel
theorem dX3_node_120 : decode cX3_node 120 = .ok (.if_icmp .le 13, 3) := by decide +kernel
theorem dX3_node_123 : decode cX3_node 123 = .ok (.new 45, 3) := by decide +kernel
theorem dX3_node_126 : decode cX3_node 126 = .ok (.dup, 1) := by decide +kernel
theorem dX3_node_127 : decode cX3_node 127 = .ok (.ldc 98, 2) := by decide +kernel
theorem dX3_node_129 : decode cX3_node 129 = .ok (.invokespecial 49, 3) := by decide +kernel
theorem dX3_node_132 : decode cX3_node 132 = .ok (.athrow, 1) := by decide +kernel
theorem dX3_node_133 : decode cX3_node 133 = .ok (.aload_n 0, 1) := by decide +kernel
theorem dX3_node_134 : decode cX3_node 134 = .ok (.invokevirtual 52, 3) := by decide +kernel
theorem dX3_node_137 : decode cX3_node 137 = .ok (.astore 9, 2) := by decide +kernel
theorem dX3_node_139 : decode cX3_node 139 = .ok (.aload_n 0, 1) := by decide +kernel
theorem dX3_node_140 : decode cX3_node 140 = .ok (.aload 9, 2) := by decide +kernel
theorem dX3_node_142 : decode cX3_node 142 = .ok (.getfield 56, 3) := by decide +kernel
theorem dX3_node_145 : decode cX3_node 145 = .ok (.iload_n 1, 1) := by decide +kernel
theorem dX3_node_146 : decode cX3_node 146 = .ok (.aload 4, 2) := by decide +kernel
theorem dX3_node_148 : decode cX3_node 148 = .ok (.getfield 56, 3) := by decide +kernel
theorem dX3_node_151 : decode cX3_node 151 = .ok (.aload 7, 2) := by decide +kernel
theorem dX3_node_153 : decode cX3_node 153 = .ok (.getfield 56, 3) := by decide +kernel
theorem dX3_node_156 : decode cX3_node 156 = .ok (.invokevirtual 100, 3) := by decide +kernel
theorem dX3_node_159 : decode cX3_node 159 = .ok (.aload_n 0, 1) := by decide +kernel
theorem dX3_node_160 : decode cX3_node 160 = .ok (.aload 9, 2) := by decide +kernel
theorem dX3_node_162 : decode cX3_node 162 = .ok (.iload_n 1, 1) := by decide +kernel
theorem dX3_node_163 : decode cX3_node 163 = .ok (.aload 4, 2) := by decide +kernel
theorem dX3_node_165 : decode cX3_node 165 = .ok (.getfield 104, 3) := by decide +kernel
theorem dX3_node_168 : decode cX3_node 168 = .ok (.iload 6, 2) := by decide +kernel
theorem dX3_node_170 : decode cX3_node 170 = .ok (.ifCond .eq 7, 3) := by decide +kernel
theorem dX3_node_173 : decode cX3_node 173 = .ok (.iconst (-1), 1) := by decide +kernel
theorem dX3_node_174 : decode cX3_node 174 = .ok (.goto 8, 3) := by decide +kernel
theorem dX3_node_177 : decode cX3_node 177 = .ok (.aload 7, 2) := by decide +kernel
theorem dX3_node_179 : decode cX3_node 179 = .ok (.getfield 104, 3) := by decide +kernel
theorem dX3_node_182 : decode cX3_node 182 = .ok (.iload 8, 2) := by decide +kernel
theorem dX3_node_184 : decode cX3_node 184 = .ok (.invokevirtual 70, 3) := by decide +kernel
theorem dX3_node_187 : decode cX3_node 187 = .ok (.ireturn, 1) := by decide +kernel
set_option maxRecDepth 20000 in
theorem ggX3_load_X3_treeFieldsOf : GoodIn wsX3_load wsX3_treeFieldsOf := goodIn_r _ [13, 14] (by decide +kernel) (by decide +kernel)
set_option maxRecDepth 20000 in
theorem gX3_load_X3_treeFieldsOf : GoodIn wsX3_load (va_wsS RX3 107 yX3_treeFieldsOf wsX3_treeFieldsOf) := goodIn_app (goodIn_of _ (by decide +kernel)) ggX3_load_X3_treeFieldsOf
set_option maxRecDepth 20000 in
theorem ggX3_load_X3_treeAt : GoodIn wsX3_load wsX3_treeAt := goodIn_r _ [18, 19, 20, 39, 40, 41, 42, 43, 44] (by decide +kernel) (by decide +kernel)
set_option maxRecDepth 20000 in
theorem gX3_load_X3_treeAt : GoodIn wsX3_load (wsV RX3 78 RX3 yX3_treeAt wsX3_treeAt) := goodIn_app (goodIn_of _ (by decide +kernel)) ggX3_load_X3_treeAt
set_option maxRecDepth 20000 in
theorem ggX3_load_X3_fits : GoodIn wsX3_load wsX3_fits := goodIn_r _ [23, 24, 25, 12, 26, 27, 28, 29] (by decide +kernel) (by decide +kernel)
set_option maxRecDepth 20000 in
theorem gX3_load_X3_fits : GoodIn wsX3_load (va_wsS RX3 110 yX3_fits wsX3_fits) := goodIn_app (goodIn_of _ (by decide +kernel)) ggX3_load_X3_fits
set_option maxRecDepth 20000 in
theorem ggX3_load_X3_fillRow : GoodIn wsX3_load wsX3_fillRow := goodIn_r _ [32] (by decide +kernel) (by decide +kernel)
set_option maxRecDepth 20000 in
theorem gX3_load_X3_fillRow : GoodIn wsX3_load (va_wsS RX3 121 yX3_fillRow wsX3_fillRow) := goodIn_app (goodIn_of _ (by decide +kernel)) ggX3_load_X3_fillRow
theorem dX3_load_0 : decode cX3_load 0 = .ok (.iload_n 1, 1) := by decide +kernel
theorem dX3_load_1 : decode cX3_load 1 = .ok (.invokestatic 107, 3) := by decide +kernel
theorem dX3_load_4 : decode cX3_load 4 = .ok (.istore 5, 2) := by decide +kernel
theorem dX3_load_6 : decode cX3_load 6 = .ok (.aload_n 0, 1) := by decide +kernel
theorem dX3_load_7 : decode cX3_load 7 = .ok (.iload_n 2, 1) := by decide +kernel
theorem dX3_load_8 : decode cX3_load 8 = .ok (.invokevirtual 78, 3) := by decide +kernel
theorem dX3_load_11 : decode cX3_load 11 = .ok (.ifnull 32, 3) := by decide +kernel
theorem dX3_load_14 : decode cX3_load 14 = .ok (.iload 5, 2) := by decide +kernel
theorem dX3_load_16 : decode cX3_load 16 = .ok (.iconst 1, 1) := by decide +kernel
theorem dX3_load_17 : decode cX3_load 17 = .ok (.if_icmp .le 11, 3) := by decide +kernel
theorem dX3_load_20 : decode cX3_load 20 = .ok (.aload_n 0, 1) := by decide +kernel
theorem dX3_load_21 : decode cX3_load 21 = .ok (.iload_n 3, 1) := by decide +kernel
theorem dX3_load_22 : decode cX3_load 22 = .ok (.invokevirtual 78, 3) := by decide +kernel
theorem dX3_load_25 : decode cX3_load 25 = .ok (.ifnull 18, 3) := by decide +kernel
theorem dX3_load_28 : decode cX3_load 28 = .ok (.iload 5, 2) := by decide +kernel
theorem dX3_load_30 : decode cX3_load 30 = .ok (.iconst 2, 1) := by decide +kernel
theorem dX3_load_31 : decode cX3_load 31 = .ok (.if_icmp .le 22, 3) := by decide +kernel
theorem dX3_load_34 : decode cX3_load 34 = .ok (.aload_n 0, 1) := by decide +kernel
theorem dX3_load_35 : decode cX3_load 35 = .ok (.iload 4, 2) := by decide +kernel
theorem dX3_load_37 : decode cX3_load 37 = .ok (.invokevirtual 78, 3) := by decide +kernel
theorem dX3_load_40 : decode cX3_load 40 = .ok (.ifnonnull 13, 3) := by decide +kernel
theorem dX3_load_43 : decode cX3_load 43 = .ok (.new 82, 3) := by decide +kernel
theorem dX3_load_46 : decode cX3_load 46 = .ok (.dup, 1) := by decide +kernel
theorem dX3_load_47 : decode cX3_load 47 = .ok (.ldc 84, 2) := by decide +kernel
theorem dX3_load_49 : decode cX3_load 49 = .ok (.invokespecial 86, 3) := by decide +kernel
theorem dX3_load_52 : decode cX3_load 52 = .ok (.athrow, 1) := by decide +kernel
theorem dX3_load_53 : decode cX3_load 53 = .ok (.iload_n 1, 1) := by decide +kernel
theorem dX3_load_54 : decode cX3_load 54 = .ok (.iload_n 3, 1) := by decide +kernel
theorem dX3_load_55 : decode cX3_load 55 = .ok (.iload 4, 2) := by decide +kernel
theorem dX3_load_57 : decode cX3_load 57 = .ok (.invokestatic 110, 3) := by decide +kernel
theorem dX3_load_60 : decode cX3_load 60 = .ok (.ifCond .ne 13, 3) := by decide +kernel
theorem dX3_load_63 : decode cX3_load 63 = .ok (.new 45, 3) := by decide +kernel
theorem dX3_load_66 : decode cX3_load 66 = .ok (.dup, 1) := by decide +kernel
theorem dX3_load_67 : decode cX3_load 67 = .ok (.ldc 114, 2) := by decide +kernel
theorem dX3_load_69 : decode cX3_load 69 = .ok (.invokespecial 49, 3) := by decide +kernel
theorem dX3_load_72 : decode cX3_load 72 = .ok (.athrow, 1) := by decide +kernel
theorem dX3_load_73 : decode cX3_load 73 = .ok (.aload_n 0, 1) := by decide +kernel
theorem dX3_load_74 : decode cX3_load 74 = .ok (.getfield 38, 3) := by decide +kernel
theorem dX3_load_77 : decode cX3_load 77 = .ok (.bipush 60, 2) := by decide +kernel
theorem dX3_load_79 : decode cX3_load 79 = .ok (.if_icmp .lt 13, 3) := by decide +kernel
theorem dX3_load_82 : decode cX3_load 82 = .ok (.new 116, 3) := by decide +kernel
theorem dX3_load_85 : decode cX3_load 85 = .ok (.dup, 1) := by decide +kernel
theorem dX3_load_86 : decode cX3_load 86 = .ok (.ldc 118, 2) := by decide +kernel
theorem dX3_load_88 : decode cX3_load 88 = .ok (.invokespecial 120, 3) := by decide +kernel
theorem dX3_load_91 : decode cX3_load 91 = .ok (.athrow, 1) := by decide +kernel
theorem dX3_load_92 : decode cX3_load 92 = .ok (.aload_n 0, 1) := by decide +kernel
theorem dX3_load_93 : decode cX3_load 93 = .ok (.getfield 17, 3) := by decide +kernel
theorem dX3_load_96 : decode cX3_load 96 = .ok (.aload_n 0, 1) := by decide +kernel
theorem dX3_load_97 : decode cX3_load 97 = .ok (.getfield 38, 3) := by decide +kernel
theorem dX3_load_100 : decode cX3_load 100 = .ok (.aaload, 1) := by decide +kernel
theorem dX3_load_101 : decode cX3_load 101 = .ok (.iload_n 1, 1) := by decide +kernel
theorem dX3_load_102 : decode cX3_load 102 = .ok (.iload_n 2, 1) := by decide +kernel
theorem dX3_load_103 : decode cX3_load 103 = .ok (.iload_n 3, 1) := by decide +kernel
theorem dX3_load_104 : decode cX3_load 104 = .ok (.iload 4, 2) := by decide +kernel
theorem dX3_load_106 : decode cX3_load 106 = .ok (.invokestatic 121, 3) := by decide +kernel
theorem dX3_load_109 : decode cX3_load 109 = .ok (.aload_n 0, 1) := by decide +kernel
theorem dX3_load_110 : decode cX3_load 110 = .ok (.dup, 1) := by decide +kernel
theorem dX3_load_111 : decode cX3_load 111 = .ok (.getfield 38, 3) := by decide +kernel
theorem dX3_load_114 : decode cX3_load 114 = .ok (.iconst 1, 1) := by decide +kernel
theorem dX3_load_115 : decode cX3_load 115 = .ok (.iadd, 1) := by decide +kernel
theorem dX3_load_116 : decode cX3_load 116 = .ok (.putfield 38, 3) := by decide +kernel
theorem dX3_load_119 : decode cX3_load 119 = .ok (.aload_n 0, 1) := by decide +kernel
theorem dX3_load_120 : decode cX3_load 120 = .ok (.getfield 38, 3) := by decide +kernel
theorem dX3_load_123 : decode cX3_load 123 = .ok (.iconst 1, 1) := by decide +kernel
theorem dX3_load_124 : decode cX3_load 124 = .ok (.isub, 1) := by decide +kernel
theorem dX3_load_125 : decode cX3_load 125 = .ok (.ireturn, 1) := by decide +kernel
set_option maxRecDepth 20000 in
theorem ggX3_cofactor_X3_isRow : GoodIn wsX3_cofactor wsX3_isRow := goodIn_r _ [11, 12, 25, 26, 27, 28, 29, 30] (by decide +kernel) (by decide +kernel)
set_option maxRecDepth 20000 in
theorem gX3_cofactor_X3_isRow : GoodIn wsX3_cofactor (wsV RX3 125 RX3 yX3_isRow wsX3_isRow) := goodIn_app (goodIn_of _ (by decide +kernel)) ggX3_cofactor_X3_isRow
set_option maxRecDepth 20000 in
theorem ggX3_cofactor_X3_treeAt : GoodIn wsX3_cofactor wsX3_treeAt := goodIn_r _ [16, 17, 18, 25, 26, 27, 28, 29, 30] (by decide +kernel) (by decide +kernel)
set_option maxRecDepth 20000 in
theorem gX3_cofactor_X3_treeAt : GoodIn wsX3_cofactor (wsV RX3 78 RX3 yX3_treeAt wsX3_treeAt) := goodIn_app (goodIn_of _ (by decide +kernel)) ggX3_cofactor_X3_treeAt
theorem dX3_cofactor_0 : decode cX3_cofactor 0 = .ok (.aload_n 0, 1) := by decide +kernel
theorem dX3_cofactor_1 : decode cX3_cofactor 1 = .ok (.iload_n 1, 1) := by decide +kernel
theorem dX3_cofactor_2 : decode cX3_cofactor 2 = .ok (.invokevirtual 125, 3) := by decide +kernel
theorem dX3_cofactor_5 : decode cX3_cofactor 5 = .ok (.ifCond .eq 11, 3) := by decide +kernel
theorem dX3_cofactor_8 : decode cX3_cofactor 8 = .ok (.aload_n 0, 1) := by decide +kernel
theorem dX3_cofactor_9 : decode cX3_cofactor 9 = .ok (.iload_n 2, 1) := by decide +kernel
theorem dX3_cofactor_10 : decode cX3_cofactor 10 = .ok (.invokevirtual 78, 3) := by decide +kernel
theorem dX3_cofactor_13 : decode cX3_cofactor 13 = .ok (.ifnonnull 13, 3) := by decide +kernel
theorem dX3_cofactor_16 : decode cX3_cofactor 16 = .ok (.new 82, 3) := by decide +kernel
theorem dX3_cofactor_19 : decode cX3_cofactor 19 = .ok (.dup, 1) := by decide +kernel
theorem dX3_cofactor_20 : decode cX3_cofactor 20 = .ok (.ldc 128, 2) := by decide +kernel
theorem dX3_cofactor_22 : decode cX3_cofactor 22 = .ok (.invokespecial 86, 3) := by decide +kernel
theorem dX3_cofactor_25 : decode cX3_cofactor 25 = .ok (.athrow, 1) := by decide +kernel
theorem dX3_cofactor_26 : decode cX3_cofactor 26 = .ok (.aload_n 0, 1) := by decide +kernel
theorem dX3_cofactor_27 : decode cX3_cofactor 27 = .ok (.getfield 17, 3) := by decide +kernel
theorem dX3_cofactor_30 : decode cX3_cofactor 30 = .ok (.iload_n 1, 1) := by decide +kernel
theorem dX3_cofactor_31 : decode cX3_cofactor 31 = .ok (.aaload, 1) := by decide +kernel
theorem dX3_cofactor_32 : decode cX3_cofactor 32 = .ok (.iconst 0, 1) := by decide +kernel
theorem dX3_cofactor_33 : decode cX3_cofactor 33 = .ok (.iaload, 1) := by decide +kernel
theorem dX3_cofactor_34 : decode cX3_cofactor 34 = .ok (.bipush 6, 2) := by decide +kernel
theorem dX3_cofactor_36 : decode cX3_cofactor 36 = .ok (.if_icmp .eq 13, 3) := by decide +kernel
theorem dX3_cofactor_39 : decode cX3_cofactor 39 = .ok (.new 45, 3) := by decide +kernel
theorem dX3_cofactor_42 : decode cX3_cofactor 42 = .ok (.dup, 1) := by decide +kernel
theorem dX3_cofactor_43 : decode cX3_cofactor 43 = .ok (.ldc 130, 2) := by decide +kernel
theorem dX3_cofactor_45 : decode cX3_cofactor 45 = .ok (.invokespecial 49, 3) := by decide +kernel
theorem dX3_cofactor_48 : decode cX3_cofactor 48 = .ok (.athrow, 1) := by decide +kernel
theorem dX3_cofactor_49 : decode cX3_cofactor 49 = .ok (.aload_n 0, 1) := by decide +kernel
theorem dX3_cofactor_50 : decode cX3_cofactor 50 = .ok (.getfield 17, 3) := by decide +kernel
theorem dX3_cofactor_53 : decode cX3_cofactor 53 = .ok (.iload_n 1, 1) := by decide +kernel
theorem dX3_cofactor_54 : decode cX3_cofactor 54 = .ok (.aaload, 1) := by decide +kernel
theorem dX3_cofactor_55 : decode cX3_cofactor 55 = .ok (.iconst 4, 1) := by decide +kernel
theorem dX3_cofactor_56 : decode cX3_cofactor 56 = .ok (.iload_n 2, 1) := by decide +kernel
theorem dX3_cofactor_57 : decode cX3_cofactor 57 = .ok (.iastore, 1) := by decide +kernel
theorem dX3_cofactor_58 : decode cX3_cofactor 58 = .ok (.return_, 1) := by decide +kernel
set_option maxRecDepth 20000 in
theorem ggX3_sample_X3_isRow : GoodIn wsX3_sample wsX3_isRow := goodIn_r _ [11, 12, 25, 26, 27, 28, 29, 30] (by decide +kernel) (by decide +kernel)
set_option maxRecDepth 20000 in
theorem gX3_sample_X3_isRow : GoodIn wsX3_sample (wsV RX3 125 RX3 yX3_isRow wsX3_isRow) := goodIn_app (goodIn_of _ (by decide +kernel)) ggX3_sample_X3_isRow
set_option maxRecDepth 20000 in
theorem ggX3_sample_X3_isLetter : GoodIn wsX3_sample wsX3_isLetter := goodIn_r _ [15] (by decide +kernel) (by decide +kernel)
set_option maxRecDepth 20000 in
theorem gX3_sample_X3_isLetter : GoodIn wsX3_sample (va_wsS RX3 41 yX3_isLetter wsX3_isLetter) := goodIn_app (goodIn_of _ (by decide +kernel)) ggX3_sample_X3_isLetter
set_option maxRecDepth 20000 in
theorem ggX3_sample_X3_isSampleNumber : GoodIn wsX3_sample wsX3_isSampleNumber := goodIn_r _ [18] (by decide +kernel) (by decide +kernel)
set_option maxRecDepth 20000 in
theorem gX3_sample_X3_isSampleNumber : GoodIn wsX3_sample (va_wsS RX3 134 yX3_isSampleNumber wsX3_isSampleNumber) := goodIn_app (goodIn_of _ (by decide +kernel)) ggX3_sample_X3_isSampleNumber
theorem dX3_sample_0 : decode cX3_sample 0 = .ok (.aload_n 0, 1) := by decide +kernel
theorem dX3_sample_1 : decode cX3_sample 1 = .ok (.iload_n 1, 1) := by decide +kernel
theorem dX3_sample_2 : decode cX3_sample 2 = .ok (.invokevirtual 125, 3) := by decide +kernel
theorem dX3_sample_5 : decode cX3_sample 5 = .ok (.ifCond .eq 10, 3) := by decide +kernel
theorem dX3_sample_8 : decode cX3_sample 8 = .ok (.iload_n 2, 1) := by decide +kernel
theorem dX3_sample_9 : decode cX3_sample 9 = .ok (.invokestatic 41, 3) := by decide +kernel
theorem dX3_sample_12 : decode cX3_sample 12 = .ok (.ifCond .ne 13, 3) := by decide +kernel
theorem dX3_sample_15 : decode cX3_sample 15 = .ok (.new 82, 3) := by decide +kernel
theorem dX3_sample_18 : decode cX3_sample 18 = .ok (.dup, 1) := by decide +kernel
theorem dX3_sample_19 : decode cX3_sample 19 = .ok (.ldc 132, 2) := by decide +kernel
theorem dX3_sample_21 : decode cX3_sample 21 = .ok (.invokespecial 86, 3) := by decide +kernel
theorem dX3_sample_24 : decode cX3_sample 24 = .ok (.athrow, 1) := by decide +kernel
theorem dX3_sample_25 : decode cX3_sample 25 = .ok (.iload_n 3, 1) := by decide +kernel
theorem dX3_sample_26 : decode cX3_sample 26 = .ok (.invokestatic 134, 3) := by decide +kernel
theorem dX3_sample_29 : decode cX3_sample 29 = .ok (.ifCond .ne 13, 3) := by decide +kernel
theorem dX3_sample_32 : decode cX3_sample 32 = .ok (.new 45, 3) := by decide +kernel
theorem dX3_sample_35 : decode cX3_sample 35 = .ok (.dup, 1) := by decide +kernel
theorem dX3_sample_36 : decode cX3_sample 36 = .ok (.ldc 137, 2) := by decide +kernel
theorem dX3_sample_38 : decode cX3_sample 38 = .ok (.invokespecial 49, 3) := by decide +kernel
theorem dX3_sample_41 : decode cX3_sample 41 = .ok (.athrow, 1) := by decide +kernel
theorem dX3_sample_42 : decode cX3_sample 42 = .ok (.aload_n 0, 1) := by decide +kernel
theorem dX3_sample_43 : decode cX3_sample 43 = .ok (.getfield 17, 3) := by decide +kernel
theorem dX3_sample_46 : decode cX3_sample 46 = .ok (.iload_n 1, 1) := by decide +kernel
theorem dX3_sample_47 : decode cX3_sample 47 = .ok (.aaload, 1) := by decide +kernel
theorem dX3_sample_48 : decode cX3_sample 48 = .ok (.iconst 5, 1) := by decide +kernel
theorem dX3_sample_49 : decode cX3_sample 49 = .ok (.iload_n 2, 1) := by decide +kernel
theorem dX3_sample_50 : decode cX3_sample 50 = .ok (.iadd, 1) := by decide +kernel
theorem dX3_sample_51 : decode cX3_sample 51 = .ok (.iload_n 3, 1) := by decide +kernel
theorem dX3_sample_52 : decode cX3_sample 52 = .ok (.iastore, 1) := by decide +kernel
theorem dX3_sample_53 : decode cX3_sample 53 = .ok (.return_, 1) := by decide +kernel
set_option maxRecDepth 20000 in
theorem ggX3_check_X3_holds : GoodIn wsX3_check wsX3_holds := goodIn_r _ [10, 11, 12, 13, 9, 14, 15, 16, 17, 18, 19, 20, 21, 22, 23, 24, 25, 26, 27, 28, 29, 30, 31, 32, 33, 34, 35, 36, 37, 38, 39, 40, 41, 42, 43, 44, 45, 46, 47, 48, 49, 50, 51, 52, 53, 54, 55, 56, 57, 58, 59, 60, 61, 62, 63, 64, 65, 66, 67, 68, 69, 70, 71, 72, 73, 74, 75, 76, 77, 78, 79, 80, 81, 82, 83, 84, 85, 86, 87, 88, 89, 90, 103, 104, 105, 106, 107, 91, 92, 93, 94, 95, 96, 108, 109, 110, 111, 112, 113, 114, 115, 116, 117, 118] (by decide +kernel) (by decide +kernel)
set_option maxRecDepth 20000 in
theorem gX3_check_X3_holds : GoodIn wsX3_check (wsV RX3 141 RX3 yX3_holds wsX3_holds) := goodIn_app (goodIn_of _ (by decide +kernel)) ggX3_check_X3_holds
theorem dX3_check_0 : decode cX3_check 0 = .ok (.iload_n 1, 1) := by decide +kernel
theorem dX3_check_1 : decode cX3_check 1 = .ok (.ifCond .lt 11, 3) := by decide +kernel
theorem dX3_check_4 : decode cX3_check 4 = .ok (.iload_n 2, 1) := by decide +kernel
theorem dX3_check_5 : decode cX3_check 5 = .ok (.aload_n 0, 1) := by decide +kernel
theorem dX3_check_6 : decode cX3_check 6 = .ok (.getfield 38, 3) := by decide +kernel
theorem dX3_check_9 : decode cX3_check 9 = .ok (.if_icmp .le 13, 3) := by decide +kernel
theorem dX3_check_12 : decode cX3_check 12 = .ok (.new 82, 3) := by decide +kernel
theorem dX3_check_15 : decode cX3_check 15 = .ok (.dup, 1) := by decide +kernel
theorem dX3_check_16 : decode cX3_check 16 = .ok (.ldc 139, 2) := by decide +kernel
theorem dX3_check_18 : decode cX3_check 18 = .ok (.invokespecial 86, 3) := by decide +kernel
theorem dX3_check_21 : decode cX3_check 21 = .ok (.athrow, 1) := by decide +kernel
theorem dX3_check_22 : decode cX3_check 22 = .ok (.iload_n 1, 1) := by decide +kernel
theorem dX3_check_23 : decode cX3_check 23 = .ok (.istore_n 3, 1) := by decide +kernel
theorem dX3_check_24 : decode cX3_check 24 = .ok (.iload_n 3, 1) := by decide +kernel
theorem dX3_check_25 : decode cX3_check 25 = .ok (.iload_n 2, 1) := by decide +kernel
theorem dX3_check_26 : decode cX3_check 26 = .ok (.if_icmp .ge 26, 3) := by decide +kernel
theorem dX3_check_29 : decode cX3_check 29 = .ok (.aload_n 0, 1) := by decide +kernel
theorem dX3_check_30 : decode cX3_check 30 = .ok (.aload_n 0, 1) := by decide +kernel
theorem dX3_check_31 : decode cX3_check 31 = .ok (.getfield 17, 3) := by decide +kernel
theorem dX3_check_34 : decode cX3_check 34 = .ok (.iload_n 3, 1) := by decide +kernel
theorem dX3_check_35 : decode cX3_check 35 = .ok (.aaload, 1) := by decide +kernel
theorem dX3_check_36 : decode cX3_check 36 = .ok (.invokevirtual 141, 3) := by decide +kernel
theorem dX3_check_39 : decode cX3_check 39 = .ok (.ifCond .ne 7, 3) := by decide +kernel
theorem dX3_check_42 : decode cX3_check 42 = .ok (.iload_n 3, 1) := by decide +kernel
theorem dX3_check_43 : decode cX3_check 43 = .ok (.iconst 1, 1) := by decide +kernel
theorem dX3_check_44 : decode cX3_check 44 = .ok (.iadd, 1) := by decide +kernel
theorem dX3_check_45 : decode cX3_check 45 = .ok (.ireturn, 1) := by decide +kernel
theorem dX3_check_46 : decode cX3_check 46 = .ok (.iinc 3 1, 3) := by decide +kernel
theorem dX3_check_49 : decode cX3_check 49 = .ok (.goto (-25), 3) := by decide +kernel
theorem dX3_check_52 : decode cX3_check 52 = .ok (.iconst 0, 1) := by decide +kernel
theorem dX3_check_53 : decode cX3_check 53 = .ok (.ireturn, 1) := by decide +kernel
