set_option maxRecDepth 20000 in
theorem ggX3_rowAt_X3_isRow : GoodIn wsX3_rowAt wsX3_isRow := goodIn_r _ [9, 10, 17, 18, 19, 20, 21, 22] (by decide +kernel) (by decide +kernel)
set_option maxRecDepth 20000 in
theorem gX3_rowAt_X3_isRow : GoodIn wsX3_rowAt (wsV RX3 125 RX3 yX3_isRow wsX3_isRow) := goodIn_app (goodIn_of _ (by decide +kernel)) ggX3_rowAt_X3_isRow
theorem dX3_rowAt_0 : decode cX3_rowAt 0 = .ok (.aload_n 0, 1) := by decide +kernel
theorem dX3_rowAt_1 : decode cX3_rowAt 1 = .ok (.iload_n 1, 1) := by decide +kernel
theorem dX3_rowAt_2 : decode cX3_rowAt 2 = .ok (.invokevirtual 125, 3) := by decide +kernel
theorem dX3_rowAt_5 : decode cX3_rowAt 5 = .ok (.ifCond .eq 13, 3) := by decide +kernel
theorem dX3_rowAt_8 : decode cX3_rowAt 8 = .ok (.iload_n 2, 1) := by decide +kernel
theorem dX3_rowAt_9 : decode cX3_rowAt 9 = .ok (.ifCond .lt 9, 3) := by decide +kernel
theorem dX3_rowAt_12 : decode cX3_rowAt 12 = .ok (.iload_n 2, 1) := by decide +kernel
theorem dX3_rowAt_13 : decode cX3_rowAt 13 = .ok (.bipush 8, 2) := by decide +kernel
theorem dX3_rowAt_15 : decode cX3_rowAt 15 = .ok (.if_icmp .lt 13, 3) := by decide +kernel
theorem dX3_rowAt_18 : decode cX3_rowAt 18 = .ok (.new 82, 3) := by decide +kernel
theorem dX3_rowAt_21 : decode cX3_rowAt 21 = .ok (.dup, 1) := by decide +kernel
theorem dX3_rowAt_22 : decode cX3_rowAt 22 = .ok (.ldc 145, 2) := by decide +kernel
theorem dX3_rowAt_24 : decode cX3_rowAt 24 = .ok (.invokespecial 86, 3) := by decide +kernel
theorem dX3_rowAt_27 : decode cX3_rowAt 27 = .ok (.athrow, 1) := by decide +kernel
theorem dX3_rowAt_28 : decode cX3_rowAt 28 = .ok (.aload_n 0, 1) := by decide +kernel
theorem dX3_rowAt_29 : decode cX3_rowAt 29 = .ok (.getfield 17, 3) := by decide +kernel
theorem dX3_rowAt_32 : decode cX3_rowAt 32 = .ok (.iload_n 1, 1) := by decide +kernel
theorem dX3_rowAt_33 : decode cX3_rowAt 33 = .ok (.aaload, 1) := by decide +kernel
theorem dX3_rowAt_34 : decode cX3_rowAt 34 = .ok (.iload_n 2, 1) := by decide +kernel
theorem dX3_rowAt_35 : decode cX3_rowAt 35 = .ok (.iaload, 1) := by decide +kernel
theorem dX3_rowAt_36 : decode cX3_rowAt 36 = .ok (.ireturn, 1) := by decide +kernel
set_option maxRecDepth 20000 in
theorem ggX3_counted_X3_isRow : GoodIn wsX3_counted wsX3_isRow := goodIn_r _ [9, 10, 37, 38, 39, 40, 41, 42] (by decide +kernel) (by decide +kernel)
set_option maxRecDepth 20000 in
theorem gX3_counted_X3_isRow : GoodIn wsX3_counted (wsV RX3 125 RX3 yX3_isRow wsX3_isRow) := goodIn_app (goodIn_of _ (by decide +kernel)) ggX3_counted_X3_isRow
set_option maxRecDepth 20000 in
theorem ggX3_counted_X3_treeFieldsOf : GoodIn wsX3_counted wsX3_treeFieldsOf := goodIn_r _ [13, 14] (by decide +kernel) (by decide +kernel)
set_option maxRecDepth 20000 in
theorem gX3_counted_X3_treeFieldsOf : GoodIn wsX3_counted (va_wsS RX3 107 yX3_treeFieldsOf wsX3_treeFieldsOf) := goodIn_app (goodIn_of _ (by decide +kernel)) ggX3_counted_X3_treeFieldsOf
set_option maxRecDepth 20000 in
theorem ggX3_counted_X3_polynomialOf : GoodIn wsX3_counted wsX3_polynomialOf := goodIn_r _ [18, 19, 20, 21, 22, 8, 23, 24, 25, 37, 38, 39, 40, 41, 42, 48, 49, 50, 51, 52, 53] (by decide +kernel) (by decide +kernel)
set_option maxRecDepth 20000 in
theorem gX3_counted_X3_polynomialOf : GoodIn wsX3_counted (wsV RX3 147 RX3 yX3_polynomialOf wsX3_polynomialOf) := goodIn_app (goodIn_of _ (by decide +kernel)) ggX3_counted_X3_polynomialOf
set_option maxRecDepth 20000 in
theorem ggX3_counted_X0_isTooGreat : GoodIn wsX3_counted wsX0_isTooGreat := goodIn_r _ [29, 30, 43, 44, 45, 46, 47] (by decide +kernel) (by decide +kernel)
set_option maxRecDepth 20000 in
theorem gX3_counted_X0_isTooGreat_n151 : GoodIn wsX3_counted (wsX0_isTooGreat) := ggX3_counted_X0_isTooGreat
theorem dX3_counted_0 : decode cX3_counted 0 = .ok (.aload_n 0, 1) := by decide +kernel
theorem dX3_counted_1 : decode cX3_counted 1 = .ok (.iload_n 1, 1) := by decide +kernel
theorem dX3_counted_2 : decode cX3_counted 2 = .ok (.invokevirtual 125, 3) := by decide +kernel
theorem dX3_counted_5 : decode cX3_counted 5 = .ok (.ifCond .ne 13, 3) := by decide +kernel
theorem dX3_counted_8 : decode cX3_counted 8 = .ok (.new 82, 3) := by decide +kernel
theorem dX3_counted_11 : decode cX3_counted 11 = .ok (.dup, 1) := by decide +kernel
theorem dX3_counted_12 : decode cX3_counted 12 = .ok (.ldc 114, 2) := by decide +kernel
theorem dX3_counted_14 : decode cX3_counted 14 = .ok (.invokespecial 86, 3) := by decide +kernel
theorem dX3_counted_17 : decode cX3_counted 17 = .ok (.athrow, 1) := by decide +kernel
theorem dX3_counted_18 : decode cX3_counted 18 = .ok (.iconst 0, 1) := by decide +kernel
theorem dX3_counted_19 : decode cX3_counted 19 = .ok (.istore_n 2, 1) := by decide +kernel
theorem dX3_counted_20 : decode cX3_counted 20 = .ok (.aload_n 0, 1) := by decide +kernel
theorem dX3_counted_21 : decode cX3_counted 21 = .ok (.getfield 17, 3) := by decide +kernel
theorem dX3_counted_24 : decode cX3_counted 24 = .ok (.iload_n 1, 1) := by decide +kernel
theorem dX3_counted_25 : decode cX3_counted 25 = .ok (.aaload, 1) := by decide +kernel
theorem dX3_counted_26 : decode cX3_counted 26 = .ok (.iconst 0, 1) := by decide +kernel
theorem dX3_counted_27 : decode cX3_counted 27 = .ok (.iaload, 1) := by decide +kernel
theorem dX3_counted_28 : decode cX3_counted 28 = .ok (.invokestatic 107, 3) := by decide +kernel
theorem dX3_counted_31 : decode cX3_counted 31 = .ok (.istore_n 3, 1) := by decide +kernel
theorem dX3_counted_32 : decode cX3_counted 32 = .ok (.iconst 0, 1) := by decide +kernel
theorem dX3_counted_33 : decode cX3_counted 33 = .ok (.istore 4, 2) := by decide +kernel
theorem dX3_counted_35 : decode cX3_counted 35 = .ok (.iload 4, 2) := by decide +kernel
theorem dX3_counted_37 : decode cX3_counted 37 = .ok (.iload_n 3, 1) := by decide +kernel
theorem dX3_counted_38 : decode cX3_counted 38 = .ok (.if_icmp .ge 46, 3) := by decide +kernel
theorem dX3_counted_41 : decode cX3_counted 41 = .ok (.aload_n 0, 1) := by decide +kernel
theorem dX3_counted_42 : decode cX3_counted 42 = .ok (.aload_n 0, 1) := by decide +kernel
theorem dX3_counted_43 : decode cX3_counted 43 = .ok (.getfield 17, 3) := by decide +kernel
theorem dX3_counted_46 : decode cX3_counted 46 = .ok (.iload_n 1, 1) := by decide +kernel
theorem dX3_counted_47 : decode cX3_counted 47 = .ok (.aaload, 1) := by decide +kernel
theorem dX3_counted_48 : decode cX3_counted 48 = .ok (.iconst 1, 1) := by decide +kernel
theorem dX3_counted_49 : decode cX3_counted 49 = .ok (.iload 4, 2) := by decide +kernel
theorem dX3_counted_51 : decode cX3_counted 51 = .ok (.iadd, 1) := by decide +kernel
theorem dX3_counted_52 : decode cX3_counted 52 = .ok (.iaload, 1) := by decide +kernel
theorem dX3_counted_53 : decode cX3_counted 53 = .ok (.invokevirtual 147, 3) := by decide +kernel
theorem dX3_counted_56 : decode cX3_counted 56 = .ok (.astore 5, 2) := by decide +kernel
theorem dX3_counted_58 : decode cX3_counted 58 = .ok (.iload_n 2, 1) := by decide +kernel
theorem dX3_counted_59 : decode cX3_counted 59 = .ok (.aload 5, 2) := by decide +kernel
theorem dX3_counted_61 : decode cX3_counted 61 = .ok (.invokevirtual 151, 3) := by decide +kernel
theorem dX3_counted_64 : decode cX3_counted 64 = .ok (.ifCond .eq 7, 3) := by decide +kernel
theorem dX3_counted_67 : decode cX3_counted 67 = .ok (.iconst 0, 1) := by decide +kernel
theorem dX3_counted_68 : decode cX3_counted 68 = .ok (.goto 8, 3) := by decide +kernel
theorem dX3_counted_71 : decode cX3_counted 71 = .ok (.aload 5, 2) := by decide +kernel
theorem dX3_counted_73 : decode cX3_counted 73 = .ok (.getfield 155, 3) := by decide +kernel
theorem dX3_counted_76 : decode cX3_counted 76 = .ok (.iadd, 1) := by decide +kernel
theorem dX3_counted_77 : decode cX3_counted 77 = .ok (.istore_n 2, 1) := by decide +kernel
theorem dX3_counted_78 : decode cX3_counted 78 = .ok (.iinc 4 1, 3) := by decide +kernel
theorem dX3_counted_81 : decode cX3_counted 81 = .ok (.goto (-46), 3) := by decide +kernel
theorem dX3_counted_84 : decode cX3_counted 84 = .ok (.iload_n 2, 1) := by decide +kernel
theorem dX3_counted_85 : decode cX3_counted 85 = .ok (.ireturn, 1) := by decide +kernel
set_option maxRecDepth 20000 in
theorem ggX3_terms_X3_existingTree : GoodIn wsX3_terms wsX3_existingTree := goodIn_r _ [5, 6, 7, 8, 9, 10, 11, 4, 12, 13, 14, 31, 32, 33, 34, 35, 36, 37, 38, 39, 40, 41, 42] (by decide +kernel) (by decide +kernel)
set_option maxRecDepth 20000 in
theorem gX3_terms_X3_existingTree : GoodIn wsX3_terms (wsV RX3 158 RX3 yX3_existingTree wsX3_existingTree) := goodIn_app (goodIn_of _ (by decide +kernel)) ggX3_terms_X3_existingTree
set_option maxRecDepth 20000 in
theorem ggX3_terms_X0_isTooGreat : GoodIn wsX3_terms wsX0_isTooGreat := goodIn_r _ [18, 19, 26, 27, 28, 29, 30] (by decide +kernel) (by decide +kernel)
set_option maxRecDepth 20000 in
theorem gX3_terms_X0_isTooGreat_n151 : GoodIn wsX3_terms (wsX0_isTooGreat) := ggX3_terms_X0_isTooGreat
theorem dX3_terms_0 : decode cX3_terms 0 = .ok (.aload_n 0, 1) := by decide +kernel
theorem dX3_terms_1 : decode cX3_terms 1 = .ok (.iload_n 1, 1) := by decide +kernel
theorem dX3_terms_2 : decode cX3_terms 2 = .ok (.invokevirtual 158, 3) := by decide +kernel
theorem dX3_terms_5 : decode cX3_terms 5 = .ok (.getfield 56, 3) := by decide +kernel
theorem dX3_terms_8 : decode cX3_terms 8 = .ok (.astore_n 2, 1) := by decide +kernel
theorem dX3_terms_9 : decode cX3_terms 9 = .ok (.aload_n 2, 1) := by decide +kernel
theorem dX3_terms_10 : decode cX3_terms 10 = .ok (.invokevirtual 151, 3) := by decide +kernel
theorem dX3_terms_13 : decode cX3_terms 13 = .ok (.ifCond .eq 7, 3) := by decide +kernel
theorem dX3_terms_16 : decode cX3_terms 16 = .ok (.iconst (-1), 1) := by decide +kernel
theorem dX3_terms_17 : decode cX3_terms 17 = .ok (.goto 7, 3) := by decide +kernel
theorem dX3_terms_20 : decode cX3_terms 20 = .ok (.aload_n 2, 1) := by decide +kernel
theorem dX3_terms_21 : decode cX3_terms 21 = .ok (.getfield 155, 3) := by decide +kernel
theorem dX3_terms_24 : decode cX3_terms 24 = .ok (.ireturn, 1) := by decide +kernel
set_option maxRecDepth 20000 in
theorem ggX3_term_X3_existingTree : GoodIn wsX3_term wsX3_existingTree := goodIn_r _ [7, 8, 9, 10, 11, 12, 13, 6, 14, 15, 16, 37, 38, 39, 40, 41, 42, 43, 44, 45, 46, 47, 48] (by decide +kernel) (by decide +kernel)
set_option maxRecDepth 20000 in
theorem gX3_term_X3_existingTree : GoodIn wsX3_term (wsV RX3 158 RX3 yX3_existingTree wsX3_existingTree) := goodIn_app (goodIn_of _ (by decide +kernel)) ggX3_term_X3_existingTree
set_option maxRecDepth 20000 in
theorem ggX3_term_X0_isTooGreat : GoodIn wsX3_term wsX0_isTooGreat := goodIn_r _ [20, 21, 49, 50, 51, 52, 53] (by decide +kernel) (by decide +kernel)
set_option maxRecDepth 20000 in
theorem gX3_term_X0_isTooGreat_n151 : GoodIn wsX3_term (wsX0_isTooGreat) := ggX3_term_X0_isTooGreat
set_option maxRecDepth 20000 in
theorem ggX3_term_X3_isPower : GoodIn wsX3_term wsX3_isPower := goodIn_r _ [24] (by decide +kernel) (by decide +kernel)
set_option maxRecDepth 20000 in
theorem gX3_term_X3_isPower : GoodIn wsX3_term (va_wsS RX3 163 yX3_isPower wsX3_isPower) := goodIn_app (goodIn_of _ (by decide +kernel)) ggX3_term_X3_isPower
set_option maxRecDepth 20000 in
theorem ggX3_term_X0_numberAt : GoodIn wsX3_term wsX0_numberAt := goodIn_r _ [27, 28, 29, 30, 49, 50, 51, 52, 53] (by decide +kernel) (by decide +kernel)
set_option maxRecDepth 20000 in
theorem gX3_term_X0_numberAt_n166 : GoodIn wsX3_term (wsX0_numberAt) := ggX3_term_X0_numberAt
theorem dX3_term_0 : decode cX3_term 0 = .ok (.aload_n 0, 1) := by decide +kernel
theorem dX3_term_1 : decode cX3_term 1 = .ok (.iload_n 1, 1) := by decide +kernel
theorem dX3_term_2 : decode cX3_term 2 = .ok (.invokevirtual 158, 3) := by decide +kernel
theorem dX3_term_5 : decode cX3_term 5 = .ok (.getfield 56, 3) := by decide +kernel
theorem dX3_term_8 : decode cX3_term 8 = .ok (.astore 5, 2) := by decide +kernel
theorem dX3_term_10 : decode cX3_term 10 = .ok (.aload 5, 2) := by decide +kernel
theorem dX3_term_12 : decode cX3_term 12 = .ok (.invokevirtual 151, 3) := by decide +kernel
theorem dX3_term_15 : decode cX3_term 15 = .ok (.ifCond .eq 13, 3) := by decide +kernel
theorem dX3_term_18 : decode cX3_term 18 = .ok (.new 116, 3) := by decide +kernel
theorem dX3_term_21 : decode cX3_term 21 = .ok (.dup, 1) := by decide +kernel
theorem dX3_term_22 : decode cX3_term 22 = .ok (.ldc 161, 2) := by decide +kernel
theorem dX3_term_24 : decode cX3_term 24 = .ok (.invokespecial 120, 3) := by decide +kernel
theorem dX3_term_27 : decode cX3_term 27 = .ok (.athrow, 1) := by decide +kernel
theorem dX3_term_28 : decode cX3_term 28 = .ok (.iload_n 2, 1) := by decide +kernel
theorem dX3_term_29 : decode cX3_term 29 = .ok (.invokestatic 163, 3) := by decide +kernel
theorem dX3_term_32 : decode cX3_term 32 = .ok (.ifCond .eq 18, 3) := by decide +kernel
theorem dX3_term_35 : decode cX3_term 35 = .ok (.iload_n 3, 1) := by decide +kernel
theorem dX3_term_36 : decode cX3_term 36 = .ok (.invokestatic 163, 3) := by decide +kernel
theorem dX3_term_39 : decode cX3_term 39 = .ok (.ifCond .eq 11, 3) := by decide +kernel
theorem dX3_term_42 : decode cX3_term 42 = .ok (.iload 4, 2) := by decide +kernel
theorem dX3_term_44 : decode cX3_term 44 = .ok (.invokestatic 163, 3) := by decide +kernel
theorem dX3_term_47 : decode cX3_term 47 = .ok (.ifCond .ne 5, 3) := by decide +kernel
theorem dX3_term_50 : decode cX3_term 50 = .ok (.iconst 0, 1) := by decide +kernel
theorem dX3_term_51 : decode cX3_term 51 = .ok (.ireturn, 1) := by decide +kernel
theorem dX3_term_52 : decode cX3_term 52 = .ok (.aload 5, 2) := by decide +kernel
theorem dX3_term_54 : decode cX3_term 54 = .ok (.iload_n 2, 1) := by decide +kernel
theorem dX3_term_55 : decode cX3_term 55 = .ok (.bipush 100, 2) := by decide +kernel
theorem dX3_term_57 : decode cX3_term 57 = .ok (.imul, 1) := by decide +kernel
theorem dX3_term_58 : decode cX3_term 58 = .ok (.iload_n 3, 1) := by decide +kernel
theorem dX3_term_59 : decode cX3_term 59 = .ok (.bipush 10, 2) := by decide +kernel
theorem dX3_term_61 : decode cX3_term 61 = .ok (.imul, 1) := by decide +kernel
theorem dX3_term_62 : decode cX3_term 62 = .ok (.iadd, 1) := by decide +kernel
theorem dX3_term_63 : decode cX3_term 63 = .ok (.iload 4, 2) := by decide +kernel
theorem dX3_term_65 : decode cX3_term 65 = .ok (.iadd, 1) := by decide +kernel
theorem dX3_term_66 : decode cX3_term 66 = .ok (.invokevirtual 166, 3) := by decide +kernel
theorem dX3_term_69 : decode cX3_term 69 = .ok (.ireturn, 1) := by decide +kernel
set_option maxRecDepth 20000 in
theorem ggX3_deep_X3_existingTree : GoodIn wsX3_deep wsX3_existingTree := goodIn_r _ [5, 6, 7, 8, 9, 10, 11, 4, 12, 13, 14, 21, 22, 23, 24, 25, 26, 27, 28, 29, 30, 31, 32] (by decide +kernel) (by decide +kernel)
set_option maxRecDepth 20000 in
theorem gX3_deep_X3_existingTree : GoodIn wsX3_deep (wsV RX3 158 RX3 yX3_existingTree wsX3_existingTree) := goodIn_app (goodIn_of _ (by decide +kernel)) ggX3_deep_X3_existingTree
theorem dX3_deep_0 : decode cX3_deep 0 = .ok (.aload_n 0, 1) := by decide +kernel
theorem dX3_deep_1 : decode cX3_deep 1 = .ok (.iload_n 1, 1) := by decide +kernel
theorem dX3_deep_2 : decode cX3_deep 2 = .ok (.invokevirtual 158, 3) := by decide +kernel
theorem dX3_deep_5 : decode cX3_deep 5 = .ok (.getfield 89, 3) := by decide +kernel
theorem dX3_deep_8 : decode cX3_deep 8 = .ok (.ireturn, 1) := by decide +kernel
set_option maxRecDepth 20000 in
theorem ggX3_alike_X3_existingTree : GoodIn wsX3_alike wsX3_existingTree := goodIn_r _ [5, 6, 7, 8, 9, 10, 11, 4, 12, 13, 14, 21, 22, 23, 24, 25, 26, 27, 28, 29, 30, 31, 32] (by decide +kernel) (by decide +kernel)
set_option maxRecDepth 20000 in
theorem gX3_alike_X3_existingTree : GoodIn wsX3_alike (wsV RX3 158 RX3 yX3_existingTree wsX3_existingTree) := goodIn_app (goodIn_of _ (by decide +kernel)) ggX3_alike_X3_existingTree
theorem dX3_alike_0 : decode cX3_alike 0 = .ok (.aload_n 0, 1) := by decide +kernel
theorem dX3_alike_1 : decode cX3_alike 1 = .ok (.iload_n 1, 1) := by decide +kernel
theorem dX3_alike_2 : decode cX3_alike 2 = .ok (.invokevirtual 158, 3) := by decide +kernel
theorem dX3_alike_5 : decode cX3_alike 5 = .ok (.getfield 104, 3) := by decide +kernel
theorem dX3_alike_8 : decode cX3_alike 8 = .ok (.aload_n 0, 1) := by decide +kernel
theorem dX3_alike_9 : decode cX3_alike 9 = .ok (.iload_n 2, 1) := by decide +kernel
theorem dX3_alike_10 : decode cX3_alike 10 = .ok (.invokevirtual 158, 3) := by decide +kernel
theorem dX3_alike_13 : decode cX3_alike 13 = .ok (.getfield 104, 3) := by decide +kernel
theorem dX3_alike_16 : decode cX3_alike 16 = .ok (.if_icmp .ne 7, 3) := by decide +kernel
theorem dX3_alike_19 : decode cX3_alike 19 = .ok (.iconst 1, 1) := by decide +kernel
theorem dX3_alike_20 : decode cX3_alike 20 = .ok (.goto 4, 3) := by decide +kernel
theorem dX3_alike_23 : decode cX3_alike 23 = .ok (.iconst 0, 1) := by decide +kernel
theorem dX3_alike_24 : decode cX3_alike 24 = .ok (.ireturn, 1) := by decide +kernel
theorem dX3_count_0 : decode cX3_count 0 = .ok (.iload_n 1, 1) := by decide +kernel
theorem dX3_count_1 : decode cX3_count 1 = .ok (.tableswitch 40 0 2 #[27, 32, 37], 27) := by decide +kernel
theorem dX3_count_28 : decode cX3_count 28 = .ok (.aload_n 0, 1) := by decide +kernel
theorem dX3_count_29 : decode cX3_count 29 = .ok (.getfield 34, 3) := by decide +kernel
theorem dX3_count_32 : decode cX3_count 32 = .ok (.ireturn, 1) := by decide +kernel
theorem dX3_count_33 : decode cX3_count 33 = .ok (.aload_n 0, 1) := by decide +kernel
theorem dX3_count_34 : decode cX3_count 34 = .ok (.getfield 38, 3) := by decide +kernel
theorem dX3_count_37 : decode cX3_count 37 = .ok (.ireturn, 1) := by decide +kernel
theorem dX3_count_38 : decode cX3_count 38 = .ok (.bipush 7, 2) := by decide +kernel
theorem dX3_count_40 : decode cX3_count 40 = .ok (.ireturn, 1) := by decide +kernel
theorem dX3_count_41 : decode cX3_count 41 = .ok (.iconst (-1), 1) := by decide +kernel
theorem dX3_count_42 : decode cX3_count 42 = .ok (.ireturn, 1) := by decide +kernel
theorem dX3_clear_0 : decode cX3_clear 0 = .ok (.aload_n 0, 1) := by decide +kernel
theorem dX3_clear_1 : decode cX3_clear 1 = .ok (.iconst 0, 1) := by decide +kernel
theorem dX3_clear_2 : decode cX3_clear 2 = .ok (.putfield 34, 3) := by decide +kernel
theorem dX3_clear_5 : decode cX3_clear 5 = .ok (.aload_n 0, 1) := by decide +kernel
theorem dX3_clear_6 : decode cX3_clear 6 = .ok (.iconst 0, 1) := by decide +kernel
theorem dX3_clear_7 : decode cX3_clear 7 = .ok (.putfield 38, 3) := by decide +kernel
theorem dX3_clear_10 : decode cX3_clear 10 = .ok (.return_, 1) := by decide +kernel
theorem dX3_isLetter_0 : decode cX3_isLetter 0 = .ok (.iload_n 0, 1) := by decide +kernel
theorem dX3_isLetter_1 : decode cX3_isLetter 1 = .ok (.ifCond .lt 12, 3) := by decide +kernel
theorem dX3_isLetter_4 : decode cX3_isLetter 4 = .ok (.iload_n 0, 1) := by decide +kernel
theorem dX3_isLetter_5 : decode cX3_isLetter 5 = .ok (.iconst 3, 1) := by decide +kernel
theorem dX3_isLetter_6 : decode cX3_isLetter 6 = .ok (.if_icmp .ge 7, 3) := by decide +kernel
theorem dX3_isLetter_9 : decode cX3_isLetter 9 = .ok (.iconst 1, 1) := by decide +kernel
theorem dX3_isLetter_10 : decode cX3_isLetter 10 = .ok (.goto 4, 3) := by decide +kernel
theorem dX3_isLetter_13 : decode cX3_isLetter 13 = .ok (.iconst 0, 1) := by decide +kernel
theorem dX3_isLetter_14 : decode cX3_isLetter 14 = .ok (.ireturn, 1) := by decide +kernel
theorem dX3_isSampleNumber_0 : decode cX3_isSampleNumber 0 = .ok (.iload_n 0, 1) := by decide +kernel
theorem dX3_isSampleNumber_1 : decode cX3_isSampleNumber 1 = .ok (.bipush (-10), 2) := by decide +kernel
theorem dX3_isSampleNumber_3 : decode cX3_isSampleNumber 3 = .ok (.if_icmp .lt 13, 3) := by decide +kernel
theorem dX3_isSampleNumber_6 : decode cX3_isSampleNumber 6 = .ok (.iload_n 0, 1) := by decide +kernel
theorem dX3_isSampleNumber_7 : decode cX3_isSampleNumber 7 = .ok (.bipush 10, 2) := by decide +kernel
theorem dX3_isSampleNumber_9 : decode cX3_isSampleNumber 9 = .ok (.if_icmp .gt 7, 3) := by decide +kernel
theorem dX3_isSampleNumber_12 : decode cX3_isSampleNumber 12 = .ok (.iconst 1, 1) := by decide +kernel
theorem dX3_isSampleNumber_13 : decode cX3_isSampleNumber 13 = .ok (.goto 4, 3) := by decide +kernel
theorem dX3_isSampleNumber_16 : decode cX3_isSampleNumber 16 = .ok (.iconst 0, 1) := by decide +kernel
theorem dX3_isSampleNumber_17 : decode cX3_isSampleNumber 17 = .ok (.ireturn, 1) := by decide +kernel
theorem dX3_isPower_0 : decode cX3_isPower 0 = .ok (.iload_n 0, 1) := by decide +kernel
theorem dX3_isPower_1 : decode cX3_isPower 1 = .ok (.ifCond .lt 13, 3) := by decide +kernel
theorem dX3_isPower_4 : decode cX3_isPower 4 = .ok (.iload_n 0, 1) := by decide +kernel
theorem dX3_isPower_5 : decode cX3_isPower 5 = .ok (.bipush 9, 2) := by decide +kernel
theorem dX3_isPower_7 : decode cX3_isPower 7 = .ok (.if_icmp .gt 7, 3) := by decide +kernel
theorem dX3_isPower_10 : decode cX3_isPower 10 = .ok (.iconst 1, 1) := by decide +kernel
theorem dX3_isPower_11 : decode cX3_isPower 11 = .ok (.goto 4, 3) := by decide +kernel
theorem dX3_isPower_14 : decode cX3_isPower 14 = .ok (.iconst 0, 1) := by decide +kernel
theorem dX3_isPower_15 : decode cX3_isPower 15 = .ok (.ireturn, 1) := by decide +kernel
theorem dX3_isRow_0 : decode cX3_isRow 0 = .ok (.iload_n 1, 1) := by decide +kernel
theorem dX3_isRow_1 : decode cX3_isRow 1 = .ok (.ifCond .lt 15, 3) := by decide +kernel
theorem dX3_isRow_4 : decode cX3_isRow 4 = .ok (.iload_n 1, 1) := by decide +kernel
theorem dX3_isRow_5 : decode cX3_isRow 5 = .ok (.aload_n 0, 1) := by decide +kernel
theorem dX3_isRow_6 : decode cX3_isRow 6 = .ok (.getfield 38, 3) := by decide +kernel
theorem dX3_isRow_9 : decode cX3_isRow 9 = .ok (.if_icmp .ge 7, 3) := by decide +kernel
theorem dX3_isRow_12 : decode cX3_isRow 12 = .ok (.iconst 1, 1) := by decide +kernel
theorem dX3_isRow_13 : decode cX3_isRow 13 = .ok (.goto 4, 3) := by decide +kernel
theorem dX3_isRow_16 : decode cX3_isRow 16 = .ok (.iconst 0, 1) := by decide +kernel
theorem dX3_isRow_17 : decode cX3_isRow 17 = .ok (.ireturn, 1) := by decide +kernel
theorem dX3_treeAt_0 : decode cX3_treeAt 0 = .ok (.iload_n 1, 1) := by decide +kernel
theorem dX3_treeAt_1 : decode cX3_treeAt 1 = .ok (.ifCond .lt 20, 3) := by decide +kernel
theorem dX3_treeAt_4 : decode cX3_treeAt 4 = .ok (.iload_n 1, 1) := by decide +kernel
theorem dX3_treeAt_5 : decode cX3_treeAt 5 = .ok (.aload_n 0, 1) := by decide +kernel
theorem dX3_treeAt_6 : decode cX3_treeAt 6 = .ok (.getfield 34, 3) := by decide +kernel
theorem dX3_treeAt_9 : decode cX3_treeAt 9 = .ok (.if_icmp .ge 12, 3) := by decide +kernel
theorem dX3_treeAt_12 : decode cX3_treeAt 12 = .ok (.aload_n 0, 1) := by decide +kernel
theorem dX3_treeAt_13 : decode cX3_treeAt 13 = .ok (.getfield 11, 3) := by decide +kernel
theorem dX3_treeAt_16 : decode cX3_treeAt 16 = .ok (.iload_n 1, 1) := by decide +kernel
theorem dX3_treeAt_17 : decode cX3_treeAt 17 = .ok (.aaload, 1) := by decide +kernel
theorem dX3_treeAt_18 : decode cX3_treeAt 18 = .ok (.goto 4, 3) := by decide +kernel
theorem dX3_treeAt_21 : decode cX3_treeAt 21 = .ok (.aconst_null, 1) := by decide +kernel
theorem dX3_treeAt_22 : decode cX3_treeAt 22 = .ok (.areturn, 1) := by decide +kernel
set_option maxRecDepth 20000 in
theorem ggX3_existingTree_X3_treeAt : GoodIn wsX3_existingTree wsX3_treeAt := goodIn_r _ [8, 9, 10, 17, 18, 19, 20, 21, 22] (by decide +kernel) (by decide +kernel)
set_option maxRecDepth 20000 in
theorem gX3_existingTree_X3_treeAt : GoodIn wsX3_existingTree (wsV RX3 78 RX3 yX3_treeAt wsX3_treeAt) := goodIn_app (goodIn_of _ (by decide +kernel)) ggX3_existingTree_X3_treeAt
theorem dX3_existingTree_0 : decode cX3_existingTree 0 = .ok (.aload_n 0, 1) := by decide +kernel
theorem dX3_existingTree_1 : decode cX3_existingTree 1 = .ok (.iload_n 1, 1) := by decide +kernel
theorem dX3_existingTree_2 : decode cX3_existingTree 2 = .ok (.invokevirtual 78, 3) := by decide +kernel
theorem dX3_existingTree_5 : decode cX3_existingTree 5 = .ok (.astore_n 2, 1) := by decide +kernel
theorem dX3_existingTree_6 : decode cX3_existingTree 6 = .ok (.aload_n 2, 1) := by decide +kernel
theorem dX3_existingTree_7 : decode cX3_existingTree 7 = .ok (.ifnonnull 13, 3) := by decide +kernel
theorem dX3_existingTree_10 : decode cX3_existingTree 10 = .ok (.new 82, 3) := by decide +kernel
theorem dX3_existingTree_13 : decode cX3_existingTree 13 = .ok (.dup, 1) := by decide +kernel
theorem dX3_existingTree_14 : decode cX3_existingTree 14 = .ok (.ldc 84, 2) := by decide +kernel
theorem dX3_existingTree_16 : decode cX3_existingTree 16 = .ok (.invokespecial 86, 3) := by decide +kernel
theorem dX3_existingTree_19 : decode cX3_existingTree 19 = .ok (.athrow, 1) := by decide +kernel
theorem dX3_existingTree_20 : decode cX3_existingTree 20 = .ok (.aload_n 2, 1) := by decide +kernel
theorem dX3_existingTree_21 : decode cX3_existingTree 21 = .ok (.areturn, 1) := by decide +kernel
set_option maxRecDepth 20000 in
theorem ggX3_polynomialOf_X3_treeAt : GoodIn wsX3_polynomialOf wsX3_treeAt := goodIn_r _ [6, 7, 8, 9, 10, 11, 12, 13, 14] (by decide +kernel) (by decide +kernel)
set_option maxRecDepth 20000 in
theorem gX3_polynomialOf_X3_treeAt : GoodIn wsX3_polynomialOf (wsV RX3 78 RX3 yX3_treeAt wsX3_treeAt) := goodIn_app (goodIn_of _ (by decide +kernel)) ggX3_polynomialOf_X3_treeAt
theorem dX3_polynomialOf_0 : decode cX3_polynomialOf 0 = .ok (.aload_n 0, 1) := by decide +kernel
theorem dX3_polynomialOf_1 : decode cX3_polynomialOf 1 = .ok (.iload_n 1, 1) := by decide +kernel
theorem dX3_polynomialOf_2 : decode cX3_polynomialOf 2 = .ok (.invokevirtual 78, 3) := by decide +kernel
theorem dX3_polynomialOf_5 : decode cX3_polynomialOf 5 = .ok (.astore_n 2, 1) := by decide +kernel
theorem dX3_polynomialOf_6 : decode cX3_polynomialOf 6 = .ok (.aload_n 2, 1) := by decide +kernel
theorem dX3_polynomialOf_7 : decode cX3_polynomialOf 7 = .ok (.ifnonnull 10, 3) := by decide +kernel
theorem dX3_polynomialOf_10 : decode cX3_polynomialOf 10 = .ok (.aload_n 0, 1) := by decide +kernel
theorem dX3_polynomialOf_11 : decode cX3_polynomialOf 11 = .ok (.getfield 30, 3) := by decide +kernel
theorem dX3_polynomialOf_14 : decode cX3_polynomialOf 14 = .ok (.goto 7, 3) := by decide +kernel
theorem dX3_polynomialOf_17 : decode cX3_polynomialOf 17 = .ok (.aload_n 2, 1) := by decide +kernel
theorem dX3_polynomialOf_18 : decode cX3_polynomialOf 18 = .ok (.getfield 56, 3) := by decide +kernel
theorem dX3_polynomialOf_21 : decode cX3_polynomialOf 21 = .ok (.areturn, 1) := by decide +kernel
set_option maxRecDepth 20000 in
theorem ggX3_nextTree_X2_init : GoodIn wsX3_nextTree wsX2_init := goodIn_r _ [9, 10, 11, 12, 13, 14, 15, 16, 17, 18, 19, 20, 21, 22, 35, 36, 37, 38, 39, 29, 30, 31, 32, 33, 34] (by decide +kernel) (by decide +kernel)
set_option maxRecDepth 20000 in
theorem gX3_nextTree_X2_init_n171 : GoodIn wsX3_nextTree (wsX2_init) := ggX3_nextTree_X2_init
theorem dX3_nextTree_0 : decode cX3_nextTree 0 = .ok (.aload_n 0, 1) := by decide +kernel
theorem dX3_nextTree_1 : decode cX3_nextTree 1 = .ok (.getfield 34, 3) := by decide +kernel
theorem dX3_nextTree_4 : decode cX3_nextTree 4 = .ok (.bipush 120, 2) := by decide +kernel
theorem dX3_nextTree_6 : decode cX3_nextTree 6 = .ok (.if_icmp .lt 13, 3) := by decide +kernel
theorem dX3_nextTree_9 : decode cX3_nextTree 9 = .ok (.new 116, 3) := by decide +kernel
theorem dX3_nextTree_12 : decode cX3_nextTree 12 = .ok (.dup, 1) := by decide +kernel
theorem dX3_nextTree_13 : decode cX3_nextTree 13 = .ok (.ldc 169, 2) := by decide +kernel
theorem dX3_nextTree_15 : decode cX3_nextTree 15 = .ok (.invokespecial 120, 3) := by decide +kernel
theorem dX3_nextTree_18 : decode cX3_nextTree 18 = .ok (.athrow, 1) := by decide +kernel
theorem dX3_nextTree_19 : decode cX3_nextTree 19 = .ok (.aload_n 0, 1) := by decide +kernel
theorem dX3_nextTree_20 : decode cX3_nextTree 20 = .ok (.getfield 11, 3) := by decide +kernel
theorem dX3_nextTree_23 : decode cX3_nextTree 23 = .ok (.aload_n 0, 1) := by decide +kernel
theorem dX3_nextTree_24 : decode cX3_nextTree 24 = .ok (.getfield 34, 3) := by decide +kernel
theorem dX3_nextTree_27 : decode cX3_nextTree 27 = .ok (.aaload, 1) := by decide +kernel
theorem dX3_nextTree_28 : decode cX3_nextTree 28 = .ok (.astore_n 1, 1) := by decide +kernel
theorem dX3_nextTree_29 : decode cX3_nextTree 29 = .ok (.aload_n 1, 1) := by decide +kernel
theorem dX3_nextTree_30 : decode cX3_nextTree 30 = .ok (.ifnonnull 21, 3) := by decide +kernel
theorem dX3_nextTree_33 : decode cX3_nextTree 33 = .ok (.new 9, 3) := by decide +kernel
theorem dX3_nextTree_36 : decode cX3_nextTree 36 = .ok (.dup, 1) := by decide +kernel
theorem dX3_nextTree_37 : decode cX3_nextTree 37 = .ok (.invokespecial 171, 3) := by decide +kernel
theorem dX3_nextTree_40 : decode cX3_nextTree 40 = .ok (.astore_n 1, 1) := by decide +kernel
theorem dX3_nextTree_41 : decode cX3_nextTree 41 = .ok (.aload_n 0, 1) := by decide +kernel
theorem dX3_nextTree_42 : decode cX3_nextTree 42 = .ok (.getfield 11, 3) := by decide +kernel
theorem dX3_nextTree_45 : decode cX3_nextTree 45 = .ok (.aload_n 0, 1) := by decide +kernel
theorem dX3_nextTree_46 : decode cX3_nextTree 46 = .ok (.getfield 34, 3) := by decide +kernel
theorem dX3_nextTree_49 : decode cX3_nextTree 49 = .ok (.aload_n 1, 1) := by decide +kernel
theorem dX3_nextTree_50 : decode cX3_nextTree 50 = .ok (.aastore, 1) := by decide +kernel
theorem dX3_nextTree_51 : decode cX3_nextTree 51 = .ok (.aload_n 1, 1) := by decide +kernel
theorem dX3_nextTree_52 : decode cX3_nextTree 52 = .ok (.areturn, 1) := by decide +kernel
set_option maxRecDepth 20000 in
theorem ggX3_keep_X3_modelOf : GoodIn wsX3_keep wsX3_modelOf := goodIn_r _ [6, 1, 7, 8, 9, 5, 10, 11, 18, 19, 20, 21, 22, 23, 12, 13, 14, 15, 16, 17] (by decide +kernel) (by decide +kernel)
set_option maxRecDepth 20000 in
theorem gX3_keep_X3_modelOf : GoodIn wsX3_keep (wsV RX3 181 RX3 yX3_modelOf wsX3_modelOf) := goodIn_app (goodIn_of _ (by decide +kernel)) ggX3_keep_X3_modelOf
theorem dX3_keep_0 : decode cX3_keep 0 = .ok (.aload_n 1, 1) := by decide +kernel
theorem dX3_keep_1 : decode cX3_keep 1 = .ok (.iload_n 2, 1) := by decide +kernel
theorem dX3_keep_2 : decode cX3_keep 2 = .ok (.putfield 172, 3) := by decide +kernel
theorem dX3_keep_5 : decode cX3_keep 5 = .ok (.aload_n 1, 1) := by decide +kernel
theorem dX3_keep_6 : decode cX3_keep 6 = .ok (.iload_n 3, 1) := by decide +kernel
theorem dX3_keep_7 : decode cX3_keep 7 = .ok (.putfield 175, 3) := by decide +kernel
theorem dX3_keep_10 : decode cX3_keep 10 = .ok (.aload_n 1, 1) := by decide +kernel
theorem dX3_keep_11 : decode cX3_keep 11 = .ok (.iload 4, 2) := by decide +kernel
theorem dX3_keep_13 : decode cX3_keep 13 = .ok (.putfield 178, 3) := by decide +kernel
theorem dX3_keep_16 : decode cX3_keep 16 = .ok (.aload_n 1, 1) := by decide +kernel
theorem dX3_keep_17 : decode cX3_keep 17 = .ok (.iload 5, 2) := by decide +kernel
theorem dX3_keep_19 : decode cX3_keep 19 = .ok (.putfield 89, 3) := by decide +kernel
theorem dX3_keep_22 : decode cX3_keep 22 = .ok (.aload_n 1, 1) := by decide +kernel
theorem dX3_keep_23 : decode cX3_keep 23 = .ok (.aload_n 0, 1) := by decide +kernel
theorem dX3_keep_24 : decode cX3_keep 24 = .ok (.aload_n 1, 1) := by decide +kernel
theorem dX3_keep_25 : decode cX3_keep 25 = .ok (.invokevirtual 181, 3) := by decide +kernel
theorem dX3_keep_28 : decode cX3_keep 28 = .ok (.putfield 104, 3) := by decide +kernel
theorem dX3_keep_31 : decode cX3_keep 31 = .ok (.aload_n 0, 1) := by decide +kernel
theorem dX3_keep_32 : decode cX3_keep 32 = .ok (.dup, 1) := by decide +kernel
theorem dX3_keep_33 : decode cX3_keep 33 = .ok (.getfield 34, 3) := by decide +kernel
theorem dX3_keep_36 : decode cX3_keep 36 = .ok (.iconst 1, 1) := by decide +kernel
theorem dX3_keep_37 : decode cX3_keep 37 = .ok (.iadd, 1) := by decide +kernel
theorem dX3_keep_38 : decode cX3_keep 38 = .ok (.putfield 34, 3) := by decide +kernel
theorem dX3_keep_41 : decode cX3_keep 41 = .ok (.aload_n 0, 1) := by decide +kernel
theorem dX3_keep_42 : decode cX3_keep 42 = .ok (.getfield 34, 3) := by decide +kernel
theorem dX3_keep_45 : decode cX3_keep 45 = .ok (.iconst 1, 1) := by decide +kernel
theorem dX3_keep_46 : decode cX3_keep 46 = .ok (.isub, 1) := by decide +kernel
theorem dX3_keep_47 : decode cX3_keep 47 = .ok (.ireturn, 1) := by decide +kernel
set_option maxRecDepth 20000 in
theorem ggX3_modelOf_X3_treeAt : GoodIn wsX3_modelOf wsX3_treeAt := goodIn_r _ [6, 1, 7, 8, 9, 10, 11, 12, 13] (by decide +kernel) (by decide +kernel)
set_option maxRecDepth 20000 in
theorem gX3_modelOf_X3_treeAt : GoodIn wsX3_modelOf (wsV RX3 78 RX3 yX3_treeAt wsX3_treeAt) := goodIn_app (goodIn_of _ (by decide +kernel)) ggX3_modelOf_X3_treeAt
theorem dX3_modelOf_0 : decode cX3_modelOf 0 = .ok (.iconst 0, 1) := by decide +kernel
theorem dX3_modelOf_1 : decode cX3_modelOf 1 = .ok (.istore_n 2, 1) := by decide +kernel
theorem dX3_modelOf_2 : decode cX3_modelOf 2 = .ok (.iload_n 2, 1) := by decide +kernel
theorem dX3_modelOf_3 : decode cX3_modelOf 3 = .ok (.aload_n 0, 1) := by decide +kernel
theorem dX3_modelOf_4 : decode cX3_modelOf 4 = .ok (.getfield 34, 3) := by decide +kernel
theorem dX3_modelOf_7 : decode cX3_modelOf 7 = .ok (.if_icmp .ge 54, 3) := by decide +kernel
theorem dX3_modelOf_10 : decode cX3_modelOf 10 = .ok (.aload_n 0, 1) := by decide +kernel
theorem dX3_modelOf_11 : decode cX3_modelOf 11 = .ok (.iload_n 2, 1) := by decide +kernel
theorem dX3_modelOf_12 : decode cX3_modelOf 12 = .ok (.invokevirtual 78, 3) := by decide +kernel
theorem dX3_modelOf_15 : decode cX3_modelOf 15 = .ok (.astore_n 3, 1) := by decide +kernel
theorem dX3_modelOf_16 : decode cX3_modelOf 16 = .ok (.aload_n 3, 1) := by decide +kernel
theorem dX3_modelOf_17 : decode cX3_modelOf 17 = .ok (.ifnull 38, 3) := by decide +kernel
theorem dX3_modelOf_20 : decode cX3_modelOf 20 = .ok (.aload_n 3, 1) := by decide +kernel
theorem dX3_modelOf_21 : decode cX3_modelOf 21 = .ok (.getfield 172, 3) := by decide +kernel
theorem dX3_modelOf_24 : decode cX3_modelOf 24 = .ok (.aload_n 1, 1) := by decide +kernel
theorem dX3_modelOf_25 : decode cX3_modelOf 25 = .ok (.getfield 172, 3) := by decide +kernel
theorem dX3_modelOf_28 : decode cX3_modelOf 28 = .ok (.if_icmp .ne 27, 3) := by decide +kernel
theorem dX3_modelOf_31 : decode cX3_modelOf 31 = .ok (.aload_n 3, 1) := by decide +kernel
theorem dX3_modelOf_32 : decode cX3_modelOf 32 = .ok (.getfield 175, 3) := by decide +kernel
theorem dX3_modelOf_35 : decode cX3_modelOf 35 = .ok (.aload_n 1, 1) := by decide +kernel
theorem dX3_modelOf_36 : decode cX3_modelOf 36 = .ok (.getfield 175, 3) := by decide +kernel
theorem dX3_modelOf_39 : decode cX3_modelOf 39 = .ok (.if_icmp .ne 16, 3) := by decide +kernel
theorem dX3_modelOf_42 : decode cX3_modelOf 42 = .ok (.aload_n 3, 1) := by decide +kernel
theorem dX3_modelOf_43 : decode cX3_modelOf 43 = .ok (.getfield 178, 3) := by decide +kernel
theorem dX3_modelOf_46 : decode cX3_modelOf 46 = .ok (.aload_n 1, 1) := by decide +kernel
theorem dX3_modelOf_47 : decode cX3_modelOf 47 = .ok (.getfield 178, 3) := by decide +kernel
theorem dX3_modelOf_50 : decode cX3_modelOf 50 = .ok (.if_icmp .ne 5, 3) := by decide +kernel
theorem dX3_modelOf_53 : decode cX3_modelOf 53 = .ok (.iload_n 2, 1) := by decide +kernel
theorem dX3_modelOf_54 : decode cX3_modelOf 54 = .ok (.ireturn, 1) := by decide +kernel
theorem dX3_modelOf_55 : decode cX3_modelOf 55 = .ok (.iinc 2 1, 3) := by decide +kernel
theorem dX3_modelOf_58 : decode cX3_modelOf 58 = .ok (.goto (-56), 3) := by decide +kernel
theorem dX3_modelOf_61 : decode cX3_modelOf 61 = .ok (.aload_n 0, 1) := by decide +kernel
theorem dX3_modelOf_62 : decode cX3_modelOf 62 = .ok (.getfield 34, 3) := by decide +kernel
theorem dX3_modelOf_65 : decode cX3_modelOf 65 = .ok (.ireturn, 1) := by decide +kernel
set_option maxRecDepth 20000 in
theorem ggX3_workOut_X0_isTooGreat : GoodIn wsX3_workOut wsX0_isTooGreat := goodIn_r _ [5, 6, 61, 62, 63, 64, 65] (by decide +kernel) (by decide +kernel)
set_option maxRecDepth 20000 in
theorem gX3_workOut_X0_isTooGreat_n151 : GoodIn wsX3_workOut (wsX0_isTooGreat) := ggX3_workOut_X0_isTooGreat
set_option maxRecDepth 20000 in
theorem ggX3_workOut_X0_becomeTooGreat : GoodIn wsX3_workOut wsX0_becomeTooGreat := goodIn_r _ [9, 10, 11, 6, 61, 62, 63, 64, 65] (by decide +kernel) (by decide +kernel)
set_option maxRecDepth 20000 in
theorem gX3_workOut_X0_becomeTooGreat_n185 : GoodIn wsX3_workOut (wsX0_becomeTooGreat) := ggX3_workOut_X0_becomeTooGreat
set_option maxRecDepth 20000 in
theorem ggX3_workOut_X1_wipe : GoodIn wsX3_workOut wsX1_wipe := goodIn_r _ [15, 16, 17, 18, 19, 66, 67, 68, 69, 70] (by decide +kernel) (by decide +kernel)
set_option maxRecDepth 20000 in
theorem gX3_workOut_X1_wipe_n188 : GoodIn wsX3_workOut (wsX1_wipe) := ggX3_workOut_X1_wipe
set_option maxRecDepth 20000 in
theorem ggX3_workOut_X1_addMultiple : GoodIn wsX3_workOut wsX1_addMultiple := goodIn_r _ [22, 23, 24, 25, 13, 26, 19, 17, 27, 16, 18, 61, 62, 63, 64, 65, 66, 67, 68, 69, 70] (by decide +kernel) (by decide +kernel)
set_option maxRecDepth 20000 in
theorem gX3_workOut_X1_addMultiple_n191 : GoodIn wsX3_workOut (wsX1_addMultiple) := ggX3_workOut_X1_addMultiple
set_option maxRecDepth 20000 in
theorem ggX3_workOut_X1_addProduct : GoodIn wsX3_workOut wsX1_addProduct := goodIn_r _ [30, 19, 23, 24, 25, 13, 26, 17, 27, 16, 18, 61, 62, 63, 64, 65, 66, 67, 68, 69, 70] (by decide +kernel) (by decide +kernel)
set_option maxRecDepth 20000 in
theorem gX3_workOut_X1_addProduct_n195 : GoodIn wsX3_workOut (wsX1_addProduct) := ggX3_workOut_X1_addProduct
set_option maxRecDepth 20000 in
theorem ggX3_workOut_X1_copyTo : GoodIn wsX3_workOut wsX1_copyTo := goodIn_r _ [33, 16, 18, 27, 19, 34, 3, 35, 36, 10, 11, 6, 37, 38, 39, 40, 41, 42, 43, 44, 45, 46, 47, 48, 7, 8, 9, 49, 50, 51, 52, 53, 54, 66, 67, 68, 69, 70, 61, 62, 63, 64, 65] (by decide +kernel) (by decide +kernel)
set_option maxRecDepth 20000 in
theorem gX3_workOut_X1_copyTo_n199 : GoodIn wsX3_workOut (wsX1_copyTo) := ggX3_workOut_X1_copyTo
theorem dX3_workOut_0 : decode cX3_workOut 0 = .ok (.aload_n 3, 1) := by decide +kernel
theorem dX3_workOut_1 : decode cX3_workOut 1 = .ok (.invokevirtual 151, 3) := by decide +kernel
theorem dX3_workOut_4 : decode cX3_workOut 4 = .ok (.ifCond .ne 11, 3) := by decide +kernel
theorem dX3_workOut_7 : decode cX3_workOut 7 = .ok (.aload 4, 2) := by decide +kernel
theorem dX3_workOut_9 : decode cX3_workOut 9 = .ok (.invokevirtual 151, 3) := by decide +kernel
theorem dX3_workOut_12 : decode cX3_workOut 12 = .ok (.ifCond .eq 8, 3) := by decide +kernel
theorem dX3_workOut_15 : decode cX3_workOut 15 = .ok (.aload_n 1, 1) := by decide +kernel
theorem dX3_workOut_16 : decode cX3_workOut 16 = .ok (.invokevirtual 185, 3) := by decide +kernel
theorem dX3_workOut_19 : decode cX3_workOut 19 = .ok (.return_, 1) := by decide +kernel
theorem dX3_workOut_20 : decode cX3_workOut 20 = .ok (.aload_n 0, 1) := by decide +kernel
theorem dX3_workOut_21 : decode cX3_workOut 21 = .ok (.getfield 23, 3) := by decide +kernel
theorem dX3_workOut_24 : decode cX3_workOut 24 = .ok (.invokevirtual 188, 3) := by decide +kernel
theorem dX3_workOut_27 : decode cX3_workOut 27 = .ok (.iload_n 2, 1) := by decide +kernel
theorem dX3_workOut_28 : decode cX3_workOut 28 = .ok (.tableswitch 96 0 5 #[40, 62, 96, 96, 84, 96], 40) := by decide +kernel
theorem dX3_workOut_68 : decode cX3_workOut 68 = .ok (.aload_n 0, 1) := by decide +kernel
theorem dX3_workOut_69 : decode cX3_workOut 69 = .ok (.getfield 23, 3) := by decide +kernel
theorem dX3_workOut_72 : decode cX3_workOut 72 = .ok (.aload_n 3, 1) := by decide +kernel
theorem dX3_workOut_73 : decode cX3_workOut 73 = .ok (.iconst 1, 1) := by decide +kernel
theorem dX3_workOut_74 : decode cX3_workOut 74 = .ok (.invokevirtual 191, 3) := by decide +kernel
theorem dX3_workOut_77 : decode cX3_workOut 77 = .ok (.aload_n 0, 1) := by decide +kernel
theorem dX3_workOut_78 : decode cX3_workOut 78 = .ok (.getfield 23, 3) := by decide +kernel
theorem dX3_workOut_81 : decode cX3_workOut 81 = .ok (.aload 4, 2) := by decide +kernel
theorem dX3_workOut_83 : decode cX3_workOut 83 = .ok (.iconst 1, 1) := by decide +kernel
theorem dX3_workOut_84 : decode cX3_workOut 84 = .ok (.invokevirtual 191, 3) := by decide +kernel
theorem dX3_workOut_87 : decode cX3_workOut 87 = .ok (.goto 47, 3) := by decide +kernel
theorem dX3_workOut_90 : decode cX3_workOut 90 = .ok (.aload_n 0, 1) := by decide +kernel
theorem dX3_workOut_91 : decode cX3_workOut 91 = .ok (.getfield 23, 3) := by decide +kernel
theorem dX3_workOut_94 : decode cX3_workOut 94 = .ok (.aload_n 3, 1) := by decide +kernel
theorem dX3_workOut_95 : decode cX3_workOut 95 = .ok (.iconst 1, 1) := by decide +kernel
theorem dX3_workOut_96 : decode cX3_workOut 96 = .ok (.invokevirtual 191, 3) := by decide +kernel
theorem dX3_workOut_99 : decode cX3_workOut 99 = .ok (.aload_n 0, 1) := by decide +kernel
theorem dX3_workOut_100 : decode cX3_workOut 100 = .ok (.getfield 23, 3) := by decide +kernel
theorem dX3_workOut_103 : decode cX3_workOut 103 = .ok (.aload 4, 2) := by decide +kernel
theorem dX3_workOut_105 : decode cX3_workOut 105 = .ok (.iconst (-1), 1) := by decide +kernel
theorem dX3_workOut_106 : decode cX3_workOut 106 = .ok (.invokevirtual 191, 3) := by decide +kernel
theorem dX3_workOut_109 : decode cX3_workOut 109 = .ok (.goto 25, 3) := by decide +kernel
theorem dX3_workOut_112 : decode cX3_workOut 112 = .ok (.aload_n 0, 1) := by decide +kernel
theorem dX3_workOut_113 : decode cX3_workOut 113 = .ok (.getfield 23, 3) := by decide +kernel
theorem dX3_workOut_116 : decode cX3_workOut 116 = .ok (.aload_n 3, 1) := by decide +kernel
theorem dX3_workOut_117 : decode cX3_workOut 117 = .ok (.iconst (-1), 1) := by decide +kernel
theorem dX3_workOut_118 : decode cX3_workOut 118 = .ok (.invokevirtual 191, 3) := by decide +kernel
theorem dX3_workOut_121 : decode cX3_workOut 121 = .ok (.goto 13, 3) := by decide +kernel
theorem dX3_workOut_124 : decode cX3_workOut 124 = .ok (.aload_n 0, 1) := by decide +kernel
theorem dX3_workOut_125 : decode cX3_workOut 125 = .ok (.getfield 23, 3) := by decide +kernel
theorem dX3_workOut_128 : decode cX3_workOut 128 = .ok (.aload_n 3, 1) := by decide +kernel
theorem dX3_workOut_129 : decode cX3_workOut 129 = .ok (.aload 4, 2) := by decide +kernel
theorem dX3_workOut_131 : decode cX3_workOut 131 = .ok (.invokevirtual 195, 3) := by decide +kernel
theorem dX3_workOut_134 : decode cX3_workOut 134 = .ok (.aload_n 0, 1) := by decide +kernel
theorem dX3_workOut_135 : decode cX3_workOut 135 = .ok (.getfield 23, 3) := by decide +kernel
theorem dX3_workOut_138 : decode cX3_workOut 138 = .ok (.aload_n 1, 1) := by decide +kernel
theorem dX3_workOut_139 : decode cX3_workOut 139 = .ok (.invokevirtual 199, 3) := by decide +kernel
theorem dX3_workOut_142 : decode cX3_workOut 142 = .ok (.iload_n 2, 1) := by decide +kernel
theorem dX3_workOut_143 : decode cX3_workOut 143 = .ok (.iconst 5, 1) := by decide +kernel
theorem dX3_workOut_144 : decode cX3_workOut 144 = .ok (.if_icmp .ne 34, 3) := by decide +kernel
theorem dX3_workOut_147 : decode cX3_workOut 147 = .ok (.aload_n 1, 1) := by decide +kernel
theorem dX3_workOut_148 : decode cX3_workOut 148 = .ok (.invokevirtual 151, 3) := by decide +kernel
theorem dX3_workOut_151 : decode cX3_workOut 151 = .ok (.ifCond .ne 27, 3) := by decide +kernel
theorem dX3_workOut_154 : decode cX3_workOut 154 = .ok (.aload_n 0, 1) := by decide +kernel
theorem dX3_workOut_155 : decode cX3_workOut 155 = .ok (.getfield 23, 3) := by decide +kernel
theorem dX3_workOut_158 : decode cX3_workOut 158 = .ok (.invokevirtual 188, 3) := by decide +kernel
theorem dX3_workOut_161 : decode cX3_workOut 161 = .ok (.aload_n 0, 1) := by decide +kernel
theorem dX3_workOut_162 : decode cX3_workOut 162 = .ok (.getfield 23, 3) := by decide +kernel
theorem dX3_workOut_165 : decode cX3_workOut 165 = .ok (.aload_n 1, 1) := by decide +kernel
theorem dX3_workOut_166 : decode cX3_workOut 166 = .ok (.aload_n 3, 1) := by decide +kernel
theorem dX3_workOut_167 : decode cX3_workOut 167 = .ok (.invokevirtual 195, 3) := by decide +kernel
theorem dX3_workOut_170 : decode cX3_workOut 170 = .ok (.aload_n 0, 1) := by decide +kernel
theorem dX3_workOut_171 : decode cX3_workOut 171 = .ok (.getfield 23, 3) := by decide +kernel
theorem dX3_workOut_174 : decode cX3_workOut 174 = .ok (.aload_n 1, 1) := by decide +kernel
theorem dX3_workOut_175 : decode cX3_workOut 175 = .ok (.invokevirtual 199, 3) := by decide +kernel
theorem dX3_workOut_178 : decode cX3_workOut 178 = .ok (.return_, 1) := by decide +kernel
theorem dX3_treeFieldsOf_0 : decode cX3_treeFieldsOf 0 = .ok (.iload_n 0, 1) := by decide +kernel
theorem dX3_treeFieldsOf_1 : decode cX3_treeFieldsOf 1 = .ok (.ifCond .lt 17, 3) := by decide +kernel
theorem dX3_treeFieldsOf_4 : decode cX3_treeFieldsOf 4 = .ok (.iload_n 0, 1) := by decide +kernel
theorem dX3_treeFieldsOf_5 : decode cX3_treeFieldsOf 5 = .ok (.bipush 7, 2) := by decide +kernel
theorem dX3_treeFieldsOf_7 : decode cX3_treeFieldsOf 7 = .ok (.if_icmp .ge 11, 3) := by decide +kernel
theorem dX3_treeFieldsOf_10 : decode cX3_treeFieldsOf 10 = .ok (.getstatic 203, 3) := by decide +kernel
theorem dX3_treeFieldsOf_13 : decode cX3_treeFieldsOf 13 = .ok (.iload_n 0, 1) := by decide +kernel
theorem dX3_treeFieldsOf_14 : decode cX3_treeFieldsOf 14 = .ok (.iaload, 1) := by decide +kernel
theorem dX3_treeFieldsOf_15 : decode cX3_treeFieldsOf 15 = .ok (.goto 4, 3) := by decide +kernel
theorem dX3_treeFieldsOf_18 : decode cX3_treeFieldsOf 18 = .ok (.iconst 1, 1) := by decide +kernel
theorem dX3_treeFieldsOf_19 : decode cX3_treeFieldsOf 19 = .ok (.ireturn, 1) := by decide +kernel
