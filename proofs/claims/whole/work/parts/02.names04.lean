set_option maxRecDepth 20000 in
theorem ggX3_fits_X3_isLetter : GoodIn wsX3_fits wsX3_isLetter := goodIn_r _ [4] (by decide +kernel) (by decide +kernel)
set_option maxRecDepth 20000 in
theorem gX3_fits_X3_isLetter : GoodIn wsX3_fits (va_wsS RX3 41 yX3_isLetter wsX3_isLetter) := goodIn_app (goodIn_of _ (by decide +kernel)) ggX3_fits_X3_isLetter
set_option maxRecDepth 20000 in
theorem ggX3_fits_X3_isSampleNumber : GoodIn wsX3_fits wsX3_isSampleNumber := goodIn_r _ [7] (by decide +kernel) (by decide +kernel)
set_option maxRecDepth 20000 in
theorem gX3_fits_X3_isSampleNumber : GoodIn wsX3_fits (va_wsS RX3 134 yX3_isSampleNumber wsX3_isSampleNumber) := goodIn_app (goodIn_of _ (by decide +kernel)) ggX3_fits_X3_isSampleNumber
theorem dX3_fits_0 : decode cX3_fits 0 = .ok (.iload_n 0, 1) := by decide +kernel
theorem dX3_fits_1 : decode cX3_fits 1 = .ok (.tableswitch 97 0 6 #[43, 54, 59, 61, 43, 81, 43], 43) := by decide +kernel
theorem dX3_fits_44 : decode cX3_fits 44 = .ok (.iload_n 2, 1) := by decide +kernel
theorem dX3_fits_45 : decode cX3_fits 45 = .ok (.iconst (-1), 1) := by decide +kernel
theorem dX3_fits_46 : decode cX3_fits 46 = .ok (.if_icmp .ne 7, 3) := by decide +kernel
theorem dX3_fits_49 : decode cX3_fits 49 = .ok (.iconst 1, 1) := by decide +kernel
theorem dX3_fits_50 : decode cX3_fits 50 = .ok (.goto 4, 3) := by decide +kernel
theorem dX3_fits_53 : decode cX3_fits 53 = .ok (.iconst 0, 1) := by decide +kernel
theorem dX3_fits_54 : decode cX3_fits 54 = .ok (.ireturn, 1) := by decide +kernel
theorem dX3_fits_55 : decode cX3_fits 55 = .ok (.iload_n 2, 1) := by decide +kernel
theorem dX3_fits_56 : decode cX3_fits 56 = .ok (.invokestatic 41, 3) := by decide +kernel
theorem dX3_fits_59 : decode cX3_fits 59 = .ok (.ireturn, 1) := by decide +kernel
theorem dX3_fits_60 : decode cX3_fits 60 = .ok (.iconst 1, 1) := by decide +kernel
theorem dX3_fits_61 : decode cX3_fits 61 = .ok (.ireturn, 1) := by decide +kernel
theorem dX3_fits_62 : decode cX3_fits 62 = .ok (.iload_n 1, 1) := by decide +kernel
theorem dX3_fits_63 : decode cX3_fits 63 = .ok (.invokestatic 134, 3) := by decide +kernel
theorem dX3_fits_66 : decode cX3_fits 66 = .ok (.ifCond .eq 14, 3) := by decide +kernel
theorem dX3_fits_69 : decode cX3_fits 69 = .ok (.iload_n 2, 1) := by decide +kernel
theorem dX3_fits_70 : decode cX3_fits 70 = .ok (.invokestatic 41, 3) := by decide +kernel
theorem dX3_fits_73 : decode cX3_fits 73 = .ok (.ifCond .eq 7, 3) := by decide +kernel
theorem dX3_fits_76 : decode cX3_fits 76 = .ok (.iconst 1, 1) := by decide +kernel
theorem dX3_fits_77 : decode cX3_fits 77 = .ok (.goto 4, 3) := by decide +kernel
theorem dX3_fits_80 : decode cX3_fits 80 = .ok (.iconst 0, 1) := by decide +kernel
theorem dX3_fits_81 : decode cX3_fits 81 = .ok (.ireturn, 1) := by decide +kernel
theorem dX3_fits_82 : decode cX3_fits 82 = .ok (.iload_n 1, 1) := by decide +kernel
theorem dX3_fits_83 : decode cX3_fits 83 = .ok (.iconst (-1), 1) := by decide +kernel
theorem dX3_fits_84 : decode cX3_fits 84 = .ok (.if_icmp .ne 12, 3) := by decide +kernel
theorem dX3_fits_87 : decode cX3_fits 87 = .ok (.iload_n 2, 1) := by decide +kernel
theorem dX3_fits_88 : decode cX3_fits 88 = .ok (.iconst (-1), 1) := by decide +kernel
theorem dX3_fits_89 : decode cX3_fits 89 = .ok (.if_icmp .ne 7, 3) := by decide +kernel
theorem dX3_fits_92 : decode cX3_fits 92 = .ok (.iconst 1, 1) := by decide +kernel
theorem dX3_fits_93 : decode cX3_fits 93 = .ok (.goto 4, 3) := by decide +kernel
theorem dX3_fits_96 : decode cX3_fits 96 = .ok (.iconst 0, 1) := by decide +kernel
theorem dX3_fits_97 : decode cX3_fits 97 = .ok (.ireturn, 1) := by decide +kernel
theorem dX3_fits_98 : decode cX3_fits 98 = .ok (.iconst 0, 1) := by decide +kernel
theorem dX3_fits_99 : decode cX3_fits 99 = .ok (.ireturn, 1) := by decide +kernel
theorem dX3_fillRow_0 : decode cX3_fillRow 0 = .ok (.aload_n 0, 1) := by decide +kernel
theorem dX3_fillRow_1 : decode cX3_fillRow 1 = .ok (.iconst 0, 1) := by decide +kernel
theorem dX3_fillRow_2 : decode cX3_fillRow 2 = .ok (.iload_n 1, 1) := by decide +kernel
theorem dX3_fillRow_3 : decode cX3_fillRow 3 = .ok (.iastore, 1) := by decide +kernel
theorem dX3_fillRow_4 : decode cX3_fillRow 4 = .ok (.aload_n 0, 1) := by decide +kernel
theorem dX3_fillRow_5 : decode cX3_fillRow 5 = .ok (.iconst 1, 1) := by decide +kernel
theorem dX3_fillRow_6 : decode cX3_fillRow 6 = .ok (.iload_n 2, 1) := by decide +kernel
theorem dX3_fillRow_7 : decode cX3_fillRow 7 = .ok (.iastore, 1) := by decide +kernel
theorem dX3_fillRow_8 : decode cX3_fillRow 8 = .ok (.aload_n 0, 1) := by decide +kernel
theorem dX3_fillRow_9 : decode cX3_fillRow 9 = .ok (.iconst 2, 1) := by decide +kernel
theorem dX3_fillRow_10 : decode cX3_fillRow 10 = .ok (.iload_n 3, 1) := by decide +kernel
theorem dX3_fillRow_11 : decode cX3_fillRow 11 = .ok (.iastore, 1) := by decide +kernel
theorem dX3_fillRow_12 : decode cX3_fillRow 12 = .ok (.aload_n 0, 1) := by decide +kernel
theorem dX3_fillRow_13 : decode cX3_fillRow 13 = .ok (.iconst 3, 1) := by decide +kernel
theorem dX3_fillRow_14 : decode cX3_fillRow 14 = .ok (.iload 4, 2) := by decide +kernel
theorem dX3_fillRow_16 : decode cX3_fillRow 16 = .ok (.iastore, 1) := by decide +kernel
theorem dX3_fillRow_17 : decode cX3_fillRow 17 = .ok (.aload_n 0, 1) := by decide +kernel
theorem dX3_fillRow_18 : decode cX3_fillRow 18 = .ok (.iconst 4, 1) := by decide +kernel
theorem dX3_fillRow_19 : decode cX3_fillRow 19 = .ok (.iconst (-1), 1) := by decide +kernel
theorem dX3_fillRow_20 : decode cX3_fillRow 20 = .ok (.iastore, 1) := by decide +kernel
theorem dX3_fillRow_21 : decode cX3_fillRow 21 = .ok (.iconst 0, 1) := by decide +kernel
theorem dX3_fillRow_22 : decode cX3_fillRow 22 = .ok (.istore 5, 2) := by decide +kernel
theorem dX3_fillRow_24 : decode cX3_fillRow 24 = .ok (.iload 5, 2) := by decide +kernel
theorem dX3_fillRow_26 : decode cX3_fillRow 26 = .ok (.iconst 3, 1) := by decide +kernel
theorem dX3_fillRow_27 : decode cX3_fillRow 27 = .ok (.if_icmp .ge 16, 3) := by decide +kernel
theorem dX3_fillRow_30 : decode cX3_fillRow 30 = .ok (.aload_n 0, 1) := by decide +kernel
theorem dX3_fillRow_31 : decode cX3_fillRow 31 = .ok (.iconst 5, 1) := by decide +kernel
theorem dX3_fillRow_32 : decode cX3_fillRow 32 = .ok (.iload 5, 2) := by decide +kernel
theorem dX3_fillRow_34 : decode cX3_fillRow 34 = .ok (.iadd, 1) := by decide +kernel
theorem dX3_fillRow_35 : decode cX3_fillRow 35 = .ok (.iconst 0, 1) := by decide +kernel
theorem dX3_fillRow_36 : decode cX3_fillRow 36 = .ok (.iastore, 1) := by decide +kernel
theorem dX3_fillRow_37 : decode cX3_fillRow 37 = .ok (.iinc 5 1, 3) := by decide +kernel
theorem dX3_fillRow_40 : decode cX3_fillRow 40 = .ok (.goto (-16), 3) := by decide +kernel
theorem dX3_fillRow_43 : decode cX3_fillRow 43 = .ok (.return_, 1) := by decide +kernel
set_option maxRecDepth 20000 in
theorem ggX3_hasTooGreat_X3_treeFieldsOf : GoodIn wsX3_hasTooGreat wsX3_treeFieldsOf := goodIn_r _ [4, 5] (by decide +kernel) (by decide +kernel)
set_option maxRecDepth 20000 in
theorem gX3_hasTooGreat_X3_treeFieldsOf : GoodIn wsX3_hasTooGreat (va_wsS RX3 107 yX3_treeFieldsOf wsX3_treeFieldsOf) := goodIn_app (goodIn_of _ (by decide +kernel)) ggX3_hasTooGreat_X3_treeFieldsOf
set_option maxRecDepth 20000 in
theorem ggX3_hasTooGreat_X3_polynomialOf : GoodIn wsX3_hasTooGreat wsX3_polynomialOf := goodIn_r _ [9, 10, 11, 12, 13, 3, 14, 15, 16, 22, 23, 24, 25, 26, 27, 28, 29, 30, 31, 32, 33] (by decide +kernel) (by decide +kernel)
set_option maxRecDepth 20000 in
theorem gX3_hasTooGreat_X3_polynomialOf : GoodIn wsX3_hasTooGreat (wsV RX3 147 RX3 yX3_polynomialOf wsX3_polynomialOf) := goodIn_app (goodIn_of _ (by decide +kernel)) ggX3_hasTooGreat_X3_polynomialOf
set_option maxRecDepth 20000 in
theorem ggX3_hasTooGreat_X0_isTooGreat : GoodIn wsX3_hasTooGreat wsX0_isTooGreat := goodIn_r _ [20, 21, 34, 35, 36, 37, 38] (by decide +kernel) (by decide +kernel)
set_option maxRecDepth 20000 in
theorem gX3_hasTooGreat_X0_isTooGreat_n151 : GoodIn wsX3_hasTooGreat (wsX0_isTooGreat) := ggX3_hasTooGreat_X0_isTooGreat
theorem dX3_hasTooGreat_0 : decode cX3_hasTooGreat 0 = .ok (.aload_n 1, 1) := by decide +kernel
theorem dX3_hasTooGreat_1 : decode cX3_hasTooGreat 1 = .ok (.iconst 0, 1) := by decide +kernel
theorem dX3_hasTooGreat_2 : decode cX3_hasTooGreat 2 = .ok (.iaload, 1) := by decide +kernel
theorem dX3_hasTooGreat_3 : decode cX3_hasTooGreat 3 = .ok (.invokestatic 107, 3) := by decide +kernel
theorem dX3_hasTooGreat_6 : decode cX3_hasTooGreat 6 = .ok (.istore_n 2, 1) := by decide +kernel
theorem dX3_hasTooGreat_7 : decode cX3_hasTooGreat 7 = .ok (.iconst 0, 1) := by decide +kernel
theorem dX3_hasTooGreat_8 : decode cX3_hasTooGreat 8 = .ok (.istore_n 3, 1) := by decide +kernel
theorem dX3_hasTooGreat_9 : decode cX3_hasTooGreat 9 = .ok (.iload_n 3, 1) := by decide +kernel
theorem dX3_hasTooGreat_10 : decode cX3_hasTooGreat 10 = .ok (.iload_n 2, 1) := by decide +kernel
theorem dX3_hasTooGreat_11 : decode cX3_hasTooGreat 11 = .ok (.if_icmp .ge 26, 3) := by decide +kernel
theorem dX3_hasTooGreat_14 : decode cX3_hasTooGreat 14 = .ok (.aload_n 0, 1) := by decide +kernel
theorem dX3_hasTooGreat_15 : decode cX3_hasTooGreat 15 = .ok (.aload_n 1, 1) := by decide +kernel
theorem dX3_hasTooGreat_16 : decode cX3_hasTooGreat 16 = .ok (.iconst 1, 1) := by decide +kernel
theorem dX3_hasTooGreat_17 : decode cX3_hasTooGreat 17 = .ok (.iload_n 3, 1) := by decide +kernel
theorem dX3_hasTooGreat_18 : decode cX3_hasTooGreat 18 = .ok (.iadd, 1) := by decide +kernel
theorem dX3_hasTooGreat_19 : decode cX3_hasTooGreat 19 = .ok (.iaload, 1) := by decide +kernel
theorem dX3_hasTooGreat_20 : decode cX3_hasTooGreat 20 = .ok (.invokevirtual 147, 3) := by decide +kernel
theorem dX3_hasTooGreat_23 : decode cX3_hasTooGreat 23 = .ok (.invokevirtual 151, 3) := by decide +kernel
theorem dX3_hasTooGreat_26 : decode cX3_hasTooGreat 26 = .ok (.ifCond .eq 5, 3) := by decide +kernel
theorem dX3_hasTooGreat_29 : decode cX3_hasTooGreat 29 = .ok (.iconst 1, 1) := by decide +kernel
theorem dX3_hasTooGreat_30 : decode cX3_hasTooGreat 30 = .ok (.ireturn, 1) := by decide +kernel
theorem dX3_hasTooGreat_31 : decode cX3_hasTooGreat 31 = .ok (.iinc 3 1, 3) := by decide +kernel
theorem dX3_hasTooGreat_34 : decode cX3_hasTooGreat 34 = .ok (.goto (-25), 3) := by decide +kernel
theorem dX3_hasTooGreat_37 : decode cX3_hasTooGreat 37 = .ok (.aload_n 0, 1) := by decide +kernel
theorem dX3_hasTooGreat_38 : decode cX3_hasTooGreat 38 = .ok (.aload_n 1, 1) := by decide +kernel
theorem dX3_hasTooGreat_39 : decode cX3_hasTooGreat 39 = .ok (.iconst 4, 1) := by decide +kernel
theorem dX3_hasTooGreat_40 : decode cX3_hasTooGreat 40 = .ok (.iaload, 1) := by decide +kernel
theorem dX3_hasTooGreat_41 : decode cX3_hasTooGreat 41 = .ok (.invokevirtual 147, 3) := by decide +kernel
theorem dX3_hasTooGreat_44 : decode cX3_hasTooGreat 44 = .ok (.invokevirtual 151, 3) := by decide +kernel
theorem dX3_hasTooGreat_47 : decode cX3_hasTooGreat 47 = .ok (.ireturn, 1) := by decide +kernel
set_option maxRecDepth 20000 in
theorem ggX3_holds_X3_hasTooGreat : GoodIn wsX3_holds wsX3_hasTooGreat := goodIn_r _ [5, 6, 7, 4, 8, 9, 10, 11, 12, 13, 14, 15, 16, 17, 18, 19, 20, 21, 22, 23, 24, 25, 87, 88, 89, 90, 91, 92, 93, 94, 95, 96, 97, 98, 82, 83, 84, 85, 86] (by decide +kernel) (by decide +kernel)
set_option maxRecDepth 20000 in
theorem gX3_holds_X3_hasTooGreat : GoodIn wsX3_holds (wsV RX3 207 RX3 yX3_hasTooGreat wsX3_hasTooGreat) := goodIn_app (goodIn_of _ (by decide +kernel)) ggX3_holds_X3_hasTooGreat
set_option maxRecDepth 20000 in
theorem ggX3_holds_X3_polynomialOf : GoodIn wsX3_holds wsX3_polynomialOf := goodIn_r _ [13, 14, 15, 16, 17, 4, 18, 19, 20, 87, 88, 89, 90, 91, 92, 93, 94, 95, 96, 97, 98] (by decide +kernel) (by decide +kernel)
set_option maxRecDepth 20000 in
theorem gX3_holds_X3_polynomialOf : GoodIn wsX3_holds (wsV RX3 147 RX3 yX3_polynomialOf wsX3_polynomialOf) := goodIn_app (goodIn_of _ (by decide +kernel)) ggX3_holds_X3_polynomialOf
set_option maxRecDepth 20000 in
theorem ggX3_holds_X3_isSame : GoodIn wsX3_holds wsX3_isSame := goodIn_r _ [29, 30, 31, 32, 33, 34, 35, 36, 37, 38, 39, 40, 41, 42, 43, 44, 45, 46, 47, 48, 49, 87, 88, 89, 90, 91, 92, 99, 100, 101, 102, 103, 82, 83, 84, 85, 86] (by decide +kernel) (by decide +kernel)
set_option maxRecDepth 20000 in
theorem gX3_holds_X3_isSame : GoodIn wsX3_holds (wsV RX3 210 RX3 yX3_isSame wsX3_isSame) := goodIn_app (goodIn_of _ (by decide +kernel)) ggX3_holds_X3_isSame
set_option maxRecDepth 20000 in
theorem ggX3_holds_X3_isDerivation : GoodIn wsX3_holds wsX3_isDerivation := goodIn_r _ [53, 30, 31, 32, 33, 34, 35, 36, 37, 38, 54, 55, 56, 57, 4, 58, 59, 60, 42, 43, 44, 45, 46, 39, 40, 41, 47, 48, 49, 87, 88, 89, 90, 91, 92, 99, 100, 101, 102, 103, 82, 83, 84, 85, 86] (by decide +kernel) (by decide +kernel)
set_option maxRecDepth 20000 in
theorem gX3_holds_X3_isDerivation : GoodIn wsX3_holds (wsV RX3 214 RX3 yX3_isDerivation wsX3_isDerivation) := goodIn_app (goodIn_of _ (by decide +kernel)) ggX3_holds_X3_isDerivation
set_option maxRecDepth 20000 in
theorem ggX3_holds_X3_isProduct : GoodIn wsX3_holds wsX3_isProduct := goodIn_r _ [64, 30, 31, 32, 33, 34, 35, 36, 37, 38, 65, 66, 67, 42, 43, 44, 45, 46, 39, 40, 41, 47, 48, 49, 87, 88, 89, 90, 91, 92, 99, 100, 101, 102, 103, 82, 83, 84, 85, 86] (by decide +kernel) (by decide +kernel)
set_option maxRecDepth 20000 in
theorem gX3_holds_X3_isProduct : GoodIn wsX3_holds (wsV RX3 218 RX3 yX3_isProduct wsX3_isProduct) := goodIn_app (goodIn_of _ (by decide +kernel)) ggX3_holds_X3_isProduct
set_option maxRecDepth 20000 in
theorem ggX3_holds_X3_isRoot : GoodIn wsX3_holds wsX3_isRoot := goodIn_r _ [71, 30, 31, 32, 33, 34, 35, 36, 37, 38, 72, 73, 74, 57, 4, 58, 59, 60, 75, 76, 42, 43, 44, 45, 46, 47, 48, 49, 87, 88, 89, 90, 91, 92, 99, 100, 101, 102, 103, 82, 83, 84, 85, 86] (by decide +kernel) (by decide +kernel)
set_option maxRecDepth 20000 in
theorem gX3_holds_X3_isRoot : GoodIn wsX3_holds (wsV RX3 222 RX3 yX3_isRoot wsX3_isRoot) := goodIn_app (goodIn_of _ (by decide +kernel)) ggX3_holds_X3_isRoot
set_option maxRecDepth 20000 in
theorem ggX3_holds_X3_valueAt : GoodIn wsX3_holds wsX3_valueAt := goodIn_r _ [79, 80, 57, 4, 58, 81, 75, 76, 82, 83, 84, 85, 86] (by decide +kernel) (by decide +kernel)
set_option maxRecDepth 20000 in
theorem gX3_holds_X3_valueAt : GoodIn wsX3_holds (va_wsS RX3 226 yX3_valueAt wsX3_valueAt) := goodIn_app (goodIn_of _ (by decide +kernel)) ggX3_holds_X3_valueAt
theorem dX3_holds_0 : decode cX3_holds 0 = .ok (.aload_n 0, 1) := by decide +kernel
theorem dX3_holds_1 : decode cX3_holds 1 = .ok (.aload_n 1, 1) := by decide +kernel
theorem dX3_holds_2 : decode cX3_holds 2 = .ok (.invokevirtual 207, 3) := by decide +kernel
theorem dX3_holds_5 : decode cX3_holds 5 = .ok (.ifCond .eq 5, 3) := by decide +kernel
theorem dX3_holds_8 : decode cX3_holds 8 = .ok (.iconst 0, 1) := by decide +kernel
theorem dX3_holds_9 : decode cX3_holds 9 = .ok (.ireturn, 1) := by decide +kernel
theorem dX3_holds_10 : decode cX3_holds 10 = .ok (.aload_n 0, 1) := by decide +kernel
theorem dX3_holds_11 : decode cX3_holds 11 = .ok (.aload_n 1, 1) := by decide +kernel
theorem dX3_holds_12 : decode cX3_holds 12 = .ok (.iconst 1, 1) := by decide +kernel
theorem dX3_holds_13 : decode cX3_holds 13 = .ok (.iaload, 1) := by decide +kernel
theorem dX3_holds_14 : decode cX3_holds 14 = .ok (.invokevirtual 147, 3) := by decide +kernel
theorem dX3_holds_17 : decode cX3_holds 17 = .ok (.astore_n 2, 1) := by decide +kernel
theorem dX3_holds_18 : decode cX3_holds 18 = .ok (.aload_n 1, 1) := by decide +kernel
theorem dX3_holds_19 : decode cX3_holds 19 = .ok (.iconst 2, 1) := by decide +kernel
theorem dX3_holds_20 : decode cX3_holds 20 = .ok (.iaload, 1) := by decide +kernel
theorem dX3_holds_21 : decode cX3_holds 21 = .ok (.istore_n 3, 1) := by decide +kernel
theorem dX3_holds_22 : decode cX3_holds 22 = .ok (.aload_n 1, 1) := by decide +kernel
theorem dX3_holds_23 : decode cX3_holds 23 = .ok (.iconst 3, 1) := by decide +kernel
theorem dX3_holds_24 : decode cX3_holds 24 = .ok (.iaload, 1) := by decide +kernel
theorem dX3_holds_25 : decode cX3_holds 25 = .ok (.istore 4, 2) := by decide +kernel
theorem dX3_holds_27 : decode cX3_holds 27 = .ok (.aload_n 1, 1) := by decide +kernel
theorem dX3_holds_28 : decode cX3_holds 28 = .ok (.iconst 0, 1) := by decide +kernel
theorem dX3_holds_29 : decode cX3_holds 29 = .ok (.iaload, 1) := by decide +kernel
theorem dX3_holds_30 : decode cX3_holds 30 = .ok (.tableswitch 176 0 6 #[42, 53, 66, 83, 92, 116, 132], 42) := by decide +kernel
theorem dX3_holds_72 : decode cX3_holds 72 = .ok (.aload_n 0, 1) := by decide +kernel
theorem dX3_holds_73 : decode cX3_holds 73 = .ok (.aload_n 2, 1) := by decide +kernel
theorem dX3_holds_74 : decode cX3_holds 74 = .ok (.aload_n 0, 1) := by decide +kernel
theorem dX3_holds_75 : decode cX3_holds 75 = .ok (.iload_n 3, 1) := by decide +kernel
theorem dX3_holds_76 : decode cX3_holds 76 = .ok (.invokevirtual 147, 3) := by decide +kernel
theorem dX3_holds_79 : decode cX3_holds 79 = .ok (.invokevirtual 210, 3) := by decide +kernel
theorem dX3_holds_82 : decode cX3_holds 82 = .ok (.ireturn, 1) := by decide +kernel
theorem dX3_holds_83 : decode cX3_holds 83 = .ok (.aload_n 0, 1) := by decide +kernel
theorem dX3_holds_84 : decode cX3_holds 84 = .ok (.aload_n 2, 1) := by decide +kernel
theorem dX3_holds_85 : decode cX3_holds 85 = .ok (.aload_n 0, 1) := by decide +kernel
theorem dX3_holds_86 : decode cX3_holds 86 = .ok (.iload_n 3, 1) := by decide +kernel
theorem dX3_holds_87 : decode cX3_holds 87 = .ok (.invokevirtual 147, 3) := by decide +kernel
theorem dX3_holds_90 : decode cX3_holds 90 = .ok (.iload 4, 2) := by decide +kernel
theorem dX3_holds_92 : decode cX3_holds 92 = .ok (.invokevirtual 214, 3) := by decide +kernel
theorem dX3_holds_95 : decode cX3_holds 95 = .ok (.ireturn, 1) := by decide +kernel
theorem dX3_holds_96 : decode cX3_holds 96 = .ok (.aload_n 0, 1) := by decide +kernel
theorem dX3_holds_97 : decode cX3_holds 97 = .ok (.aload_n 2, 1) := by decide +kernel
theorem dX3_holds_98 : decode cX3_holds 98 = .ok (.aload_n 0, 1) := by decide +kernel
theorem dX3_holds_99 : decode cX3_holds 99 = .ok (.iload_n 3, 1) := by decide +kernel
theorem dX3_holds_100 : decode cX3_holds 100 = .ok (.invokevirtual 147, 3) := by decide +kernel
theorem dX3_holds_103 : decode cX3_holds 103 = .ok (.aload_n 0, 1) := by decide +kernel
theorem dX3_holds_104 : decode cX3_holds 104 = .ok (.iload 4, 2) := by decide +kernel
theorem dX3_holds_106 : decode cX3_holds 106 = .ok (.invokevirtual 147, 3) := by decide +kernel
theorem dX3_holds_109 : decode cX3_holds 109 = .ok (.invokevirtual 218, 3) := by decide +kernel
theorem dX3_holds_112 : decode cX3_holds 112 = .ok (.ireturn, 1) := by decide +kernel
theorem dX3_holds_113 : decode cX3_holds 113 = .ok (.aload_n 0, 1) := by decide +kernel
theorem dX3_holds_114 : decode cX3_holds 114 = .ok (.aload_n 2, 1) := by decide +kernel
theorem dX3_holds_115 : decode cX3_holds 115 = .ok (.iload_n 3, 1) := by decide +kernel
theorem dX3_holds_116 : decode cX3_holds 116 = .ok (.iload 4, 2) := by decide +kernel
theorem dX3_holds_118 : decode cX3_holds 118 = .ok (.invokevirtual 222, 3) := by decide +kernel
theorem dX3_holds_121 : decode cX3_holds 121 = .ok (.ireturn, 1) := by decide +kernel
theorem dX3_holds_122 : decode cX3_holds 122 = .ok (.aload_n 2, 1) := by decide +kernel
theorem dX3_holds_123 : decode cX3_holds 123 = .ok (.aload_n 1, 1) := by decide +kernel
theorem dX3_holds_124 : decode cX3_holds 124 = .ok (.invokestatic 226, 3) := by decide +kernel
theorem dX3_holds_127 : decode cX3_holds 127 = .ok (.aload_n 0, 1) := by decide +kernel
theorem dX3_holds_128 : decode cX3_holds 128 = .ok (.iload_n 3, 1) := by decide +kernel
theorem dX3_holds_129 : decode cX3_holds 129 = .ok (.invokevirtual 147, 3) := by decide +kernel
theorem dX3_holds_132 : decode cX3_holds 132 = .ok (.aload_n 1, 1) := by decide +kernel
theorem dX3_holds_133 : decode cX3_holds 133 = .ok (.invokestatic 226, 3) := by decide +kernel
theorem dX3_holds_136 : decode cX3_holds 136 = .ok (.lcmp, 1) := by decide +kernel
theorem dX3_holds_137 : decode cX3_holds 137 = .ok (.ifCond .ne 7, 3) := by decide +kernel
theorem dX3_holds_140 : decode cX3_holds 140 = .ok (.iconst 1, 1) := by decide +kernel
theorem dX3_holds_141 : decode cX3_holds 141 = .ok (.goto 4, 3) := by decide +kernel
theorem dX3_holds_144 : decode cX3_holds 144 = .ok (.iconst 0, 1) := by decide +kernel
theorem dX3_holds_145 : decode cX3_holds 145 = .ok (.ireturn, 1) := by decide +kernel
theorem dX3_holds_146 : decode cX3_holds 146 = .ok (.aload_n 2, 1) := by decide +kernel
theorem dX3_holds_147 : decode cX3_holds 147 = .ok (.aload_n 1, 1) := by decide +kernel
theorem dX3_holds_148 : decode cX3_holds 148 = .ok (.invokestatic 226, 3) := by decide +kernel
theorem dX3_holds_151 : decode cX3_holds 151 = .ok (.lconst 0, 1) := by decide +kernel
theorem dX3_holds_152 : decode cX3_holds 152 = .ok (.lcmp, 1) := by decide +kernel
theorem dX3_holds_153 : decode cX3_holds 153 = .ok (.ifCond .le 7, 3) := by decide +kernel
theorem dX3_holds_156 : decode cX3_holds 156 = .ok (.iconst 1, 1) := by decide +kernel
theorem dX3_holds_157 : decode cX3_holds 157 = .ok (.goto 4, 3) := by decide +kernel
theorem dX3_holds_160 : decode cX3_holds 160 = .ok (.iconst 0, 1) := by decide +kernel
theorem dX3_holds_161 : decode cX3_holds 161 = .ok (.ireturn, 1) := by decide +kernel
theorem dX3_holds_162 : decode cX3_holds 162 = .ok (.aload_n 1, 1) := by decide +kernel
theorem dX3_holds_163 : decode cX3_holds 163 = .ok (.iconst 4, 1) := by decide +kernel
theorem dX3_holds_164 : decode cX3_holds 164 = .ok (.iaload, 1) := by decide +kernel
theorem dX3_holds_165 : decode cX3_holds 165 = .ok (.iconst (-1), 1) := by decide +kernel
theorem dX3_holds_166 : decode cX3_holds 166 = .ok (.if_icmp .eq 38, 3) := by decide +kernel
theorem dX3_holds_169 : decode cX3_holds 169 = .ok (.aload_n 0, 1) := by decide +kernel
theorem dX3_holds_170 : decode cX3_holds 170 = .ok (.iload_n 3, 1) := by decide +kernel
theorem dX3_holds_171 : decode cX3_holds 171 = .ok (.invokevirtual 147, 3) := by decide +kernel
theorem dX3_holds_174 : decode cX3_holds 174 = .ok (.getfield 155, 3) := by decide +kernel
theorem dX3_holds_177 : decode cX3_holds 177 = .ok (.ifCond .eq 27, 3) := by decide +kernel
theorem dX3_holds_180 : decode cX3_holds 180 = .ok (.aload_n 0, 1) := by decide +kernel
theorem dX3_holds_181 : decode cX3_holds 181 = .ok (.aload_n 2, 1) := by decide +kernel
theorem dX3_holds_182 : decode cX3_holds 182 = .ok (.aload_n 0, 1) := by decide +kernel
theorem dX3_holds_183 : decode cX3_holds 183 = .ok (.iload_n 3, 1) := by decide +kernel
theorem dX3_holds_184 : decode cX3_holds 184 = .ok (.invokevirtual 147, 3) := by decide +kernel
theorem dX3_holds_187 : decode cX3_holds 187 = .ok (.aload_n 0, 1) := by decide +kernel
theorem dX3_holds_188 : decode cX3_holds 188 = .ok (.aload_n 1, 1) := by decide +kernel
theorem dX3_holds_189 : decode cX3_holds 189 = .ok (.iconst 4, 1) := by decide +kernel
theorem dX3_holds_190 : decode cX3_holds 190 = .ok (.iaload, 1) := by decide +kernel
theorem dX3_holds_191 : decode cX3_holds 191 = .ok (.invokevirtual 147, 3) := by decide +kernel
theorem dX3_holds_194 : decode cX3_holds 194 = .ok (.invokevirtual 218, 3) := by decide +kernel
theorem dX3_holds_197 : decode cX3_holds 197 = .ok (.ifCond .eq 7, 3) := by decide +kernel
theorem dX3_holds_200 : decode cX3_holds 200 = .ok (.iconst 1, 1) := by decide +kernel
theorem dX3_holds_201 : decode cX3_holds 201 = .ok (.goto 4, 3) := by decide +kernel
theorem dX3_holds_204 : decode cX3_holds 204 = .ok (.iconst 0, 1) := by decide +kernel
theorem dX3_holds_205 : decode cX3_holds 205 = .ok (.ireturn, 1) := by decide +kernel
theorem dX3_holds_206 : decode cX3_holds 206 = .ok (.iconst 0, 1) := by decide +kernel
theorem dX3_holds_207 : decode cX3_holds 207 = .ok (.ireturn, 1) := by decide +kernel
set_option maxRecDepth 20000 in
theorem ggX3_isSame_X1_wipe : GoodIn wsX3_isSame wsX1_wipe := goodIn_r _ [5, 6, 7, 8, 9, 27, 28, 29, 30, 31] (by decide +kernel) (by decide +kernel)
set_option maxRecDepth 20000 in
theorem gX3_isSame_X1_wipe_n188 : GoodIn wsX3_isSame (wsX1_wipe) := ggX3_isSame_X1_wipe
set_option maxRecDepth 20000 in
theorem ggX3_isSame_X1_addMultiple : GoodIn wsX3_isSame wsX1_addMultiple := goodIn_r _ [12, 13, 14, 15, 3, 16, 9, 7, 17, 6, 8, 32, 33, 34, 35, 36, 27, 28, 29, 30, 31] (by decide +kernel) (by decide +kernel)
set_option maxRecDepth 20000 in
theorem gX3_isSame_X1_addMultiple_n191 : GoodIn wsX3_isSame (wsX1_addMultiple) := ggX3_isSame_X1_addMultiple
set_option maxRecDepth 20000 in
theorem ggX3_isSame_X1_isZero : GoodIn wsX3_isSame wsX1_isZero := goodIn_r _ [20, 6, 17, 9, 27, 28, 29, 30, 31] (by decide +kernel) (by decide +kernel)
set_option maxRecDepth 20000 in
theorem gX3_isSame_X1_isZero_n230 : GoodIn wsX3_isSame (wsX1_isZero) := ggX3_isSame_X1_isZero
theorem dX3_isSame_0 : decode cX3_isSame 0 = .ok (.aload_n 0, 1) := by decide +kernel
theorem dX3_isSame_1 : decode cX3_isSame 1 = .ok (.getfield 23, 3) := by decide +kernel
theorem dX3_isSame_4 : decode cX3_isSame 4 = .ok (.invokevirtual 188, 3) := by decide +kernel
theorem dX3_isSame_7 : decode cX3_isSame 7 = .ok (.aload_n 0, 1) := by decide +kernel
theorem dX3_isSame_8 : decode cX3_isSame 8 = .ok (.getfield 23, 3) := by decide +kernel
theorem dX3_isSame_11 : decode cX3_isSame 11 = .ok (.aload_n 1, 1) := by decide +kernel
theorem dX3_isSame_12 : decode cX3_isSame 12 = .ok (.iconst 1, 1) := by decide +kernel
theorem dX3_isSame_13 : decode cX3_isSame 13 = .ok (.invokevirtual 191, 3) := by decide +kernel
theorem dX3_isSame_16 : decode cX3_isSame 16 = .ok (.aload_n 0, 1) := by decide +kernel
theorem dX3_isSame_17 : decode cX3_isSame 17 = .ok (.getfield 23, 3) := by decide +kernel
theorem dX3_isSame_20 : decode cX3_isSame 20 = .ok (.aload_n 2, 1) := by decide +kernel
theorem dX3_isSame_21 : decode cX3_isSame 21 = .ok (.iconst (-1), 1) := by decide +kernel
theorem dX3_isSame_22 : decode cX3_isSame 22 = .ok (.invokevirtual 191, 3) := by decide +kernel
theorem dX3_isSame_25 : decode cX3_isSame 25 = .ok (.aload_n 0, 1) := by decide +kernel
theorem dX3_isSame_26 : decode cX3_isSame 26 = .ok (.getfield 23, 3) := by decide +kernel
theorem dX3_isSame_29 : decode cX3_isSame 29 = .ok (.invokevirtual 230, 3) := by decide +kernel
theorem dX3_isSame_32 : decode cX3_isSame 32 = .ok (.ireturn, 1) := by decide +kernel
set_option maxRecDepth 20000 in
theorem ggX3_isDerivation_X1_wipe : GoodIn wsX3_isDerivation wsX1_wipe := goodIn_r _ [5, 6, 7, 8, 9, 35, 36, 37, 38, 39] (by decide +kernel) (by decide +kernel)
set_option maxRecDepth 20000 in
theorem gX3_isDerivation_X1_wipe_n188 : GoodIn wsX3_isDerivation (wsX1_wipe) := ggX3_isDerivation_X1_wipe
set_option maxRecDepth 20000 in
theorem ggX3_isDerivation_X1_addDerivation : GoodIn wsX3_isDerivation wsX1_addDerivation := goodIn_r _ [12, 13, 14, 15, 16, 17, 18, 19, 20, 3, 21, 9, 7, 22, 6, 8, 40, 41, 42, 43, 44, 35, 36, 37, 38, 39] (by decide +kernel) (by decide +kernel)
set_option maxRecDepth 20000 in
theorem gX3_isDerivation_X1_addDerivation_n233 : GoodIn wsX3_isDerivation (wsX1_addDerivation) := ggX3_isDerivation_X1_addDerivation
set_option maxRecDepth 20000 in
theorem ggX3_isDerivation_X1_addMultiple : GoodIn wsX3_isDerivation wsX1_addMultiple := goodIn_r _ [25, 18, 19, 20, 3, 21, 9, 7, 22, 6, 8, 40, 41, 42, 43, 44, 35, 36, 37, 38, 39] (by decide +kernel) (by decide +kernel)
set_option maxRecDepth 20000 in
theorem gX3_isDerivation_X1_addMultiple_n191 : GoodIn wsX3_isDerivation (wsX1_addMultiple) := ggX3_isDerivation_X1_addMultiple
set_option maxRecDepth 20000 in
theorem ggX3_isDerivation_X1_isZero : GoodIn wsX3_isDerivation wsX1_isZero := goodIn_r _ [28, 6, 22, 9, 35, 36, 37, 38, 39] (by decide +kernel) (by decide +kernel)
set_option maxRecDepth 20000 in
theorem gX3_isDerivation_X1_isZero_n230 : GoodIn wsX3_isDerivation (wsX1_isZero) := ggX3_isDerivation_X1_isZero
theorem dX3_isDerivation_0 : decode cX3_isDerivation 0 = .ok (.aload_n 0, 1) := by decide +kernel
theorem dX3_isDerivation_1 : decode cX3_isDerivation 1 = .ok (.getfield 23, 3) := by decide +kernel
theorem dX3_isDerivation_4 : decode cX3_isDerivation 4 = .ok (.invokevirtual 188, 3) := by decide +kernel
theorem dX3_isDerivation_7 : decode cX3_isDerivation 7 = .ok (.aload_n 0, 1) := by decide +kernel
theorem dX3_isDerivation_8 : decode cX3_isDerivation 8 = .ok (.getfield 23, 3) := by decide +kernel
theorem dX3_isDerivation_11 : decode cX3_isDerivation 11 = .ok (.aload_n 1, 1) := by decide +kernel
theorem dX3_isDerivation_12 : decode cX3_isDerivation 12 = .ok (.iload_n 3, 1) := by decide +kernel
theorem dX3_isDerivation_13 : decode cX3_isDerivation 13 = .ok (.invokevirtual 233, 3) := by decide +kernel
theorem dX3_isDerivation_16 : decode cX3_isDerivation 16 = .ok (.aload_n 0, 1) := by decide +kernel
theorem dX3_isDerivation_17 : decode cX3_isDerivation 17 = .ok (.getfield 23, 3) := by decide +kernel
theorem dX3_isDerivation_20 : decode cX3_isDerivation 20 = .ok (.aload_n 2, 1) := by decide +kernel
theorem dX3_isDerivation_21 : decode cX3_isDerivation 21 = .ok (.iconst (-1), 1) := by decide +kernel
theorem dX3_isDerivation_22 : decode cX3_isDerivation 22 = .ok (.invokevirtual 191, 3) := by decide +kernel
theorem dX3_isDerivation_25 : decode cX3_isDerivation 25 = .ok (.aload_n 0, 1) := by decide +kernel
theorem dX3_isDerivation_26 : decode cX3_isDerivation 26 = .ok (.getfield 23, 3) := by decide +kernel
theorem dX3_isDerivation_29 : decode cX3_isDerivation 29 = .ok (.invokevirtual 230, 3) := by decide +kernel
theorem dX3_isDerivation_32 : decode cX3_isDerivation 32 = .ok (.ireturn, 1) := by decide +kernel
set_option maxRecDepth 20000 in
theorem ggX3_isProduct_X1_wipe : GoodIn wsX3_isProduct wsX1_wipe := goodIn_r _ [5, 6, 7, 8, 9, 30, 31, 32, 33, 34] (by decide +kernel) (by decide +kernel)
set_option maxRecDepth 20000 in
theorem gX3_isProduct_X1_wipe_n188 : GoodIn wsX3_isProduct (wsX1_wipe) := ggX3_isProduct_X1_wipe
set_option maxRecDepth 20000 in
theorem ggX3_isProduct_X1_addProduct : GoodIn wsX3_isProduct wsX1_addProduct := goodIn_r _ [12, 9, 13, 14, 15, 3, 16, 7, 17, 6, 8, 35, 36, 37, 38, 39, 30, 31, 32, 33, 34] (by decide +kernel) (by decide +kernel)
set_option maxRecDepth 20000 in
theorem gX3_isProduct_X1_addProduct_n195 : GoodIn wsX3_isProduct (wsX1_addProduct) := ggX3_isProduct_X1_addProduct
set_option maxRecDepth 20000 in
theorem ggX3_isProduct_X1_addMultiple : GoodIn wsX3_isProduct wsX1_addMultiple := goodIn_r _ [20, 13, 14, 15, 3, 16, 9, 7, 17, 6, 8, 35, 36, 37, 38, 39, 30, 31, 32, 33, 34] (by decide +kernel) (by decide +kernel)
set_option maxRecDepth 20000 in
theorem gX3_isProduct_X1_addMultiple_n191 : GoodIn wsX3_isProduct (wsX1_addMultiple) := ggX3_isProduct_X1_addMultiple
set_option maxRecDepth 20000 in
theorem ggX3_isProduct_X1_isZero : GoodIn wsX3_isProduct wsX1_isZero := goodIn_r _ [23, 6, 17, 9, 30, 31, 32, 33, 34] (by decide +kernel) (by decide +kernel)
set_option maxRecDepth 20000 in
theorem gX3_isProduct_X1_isZero_n230 : GoodIn wsX3_isProduct (wsX1_isZero) := ggX3_isProduct_X1_isZero
theorem dX3_isProduct_0 : decode cX3_isProduct 0 = .ok (.aload_n 0, 1) := by decide +kernel
theorem dX3_isProduct_1 : decode cX3_isProduct 1 = .ok (.getfield 23, 3) := by decide +kernel
theorem dX3_isProduct_4 : decode cX3_isProduct 4 = .ok (.invokevirtual 188, 3) := by decide +kernel
theorem dX3_isProduct_7 : decode cX3_isProduct 7 = .ok (.aload_n 0, 1) := by decide +kernel
theorem dX3_isProduct_8 : decode cX3_isProduct 8 = .ok (.getfield 23, 3) := by decide +kernel
theorem dX3_isProduct_11 : decode cX3_isProduct 11 = .ok (.aload_n 2, 1) := by decide +kernel
theorem dX3_isProduct_12 : decode cX3_isProduct 12 = .ok (.aload_n 3, 1) := by decide +kernel
theorem dX3_isProduct_13 : decode cX3_isProduct 13 = .ok (.invokevirtual 195, 3) := by decide +kernel
theorem dX3_isProduct_16 : decode cX3_isProduct 16 = .ok (.aload_n 0, 1) := by decide +kernel
theorem dX3_isProduct_17 : decode cX3_isProduct 17 = .ok (.getfield 23, 3) := by decide +kernel
theorem dX3_isProduct_20 : decode cX3_isProduct 20 = .ok (.aload_n 1, 1) := by decide +kernel
theorem dX3_isProduct_21 : decode cX3_isProduct 21 = .ok (.iconst (-1), 1) := by decide +kernel
theorem dX3_isProduct_22 : decode cX3_isProduct 22 = .ok (.invokevirtual 191, 3) := by decide +kernel
theorem dX3_isProduct_25 : decode cX3_isProduct 25 = .ok (.aload_n 0, 1) := by decide +kernel
theorem dX3_isProduct_26 : decode cX3_isProduct 26 = .ok (.getfield 23, 3) := by decide +kernel
theorem dX3_isProduct_29 : decode cX3_isProduct 29 = .ok (.invokevirtual 230, 3) := by decide +kernel
theorem dX3_isProduct_32 : decode cX3_isProduct 32 = .ok (.ireturn, 1) := by decide +kernel
set_option maxRecDepth 20000 in
theorem ggX3_isRoot_X1_wipe : GoodIn wsX3_isRoot wsX1_wipe := goodIn_r _ [5, 6, 7, 8, 9, 34, 35, 36, 37, 38] (by decide +kernel) (by decide +kernel)
set_option maxRecDepth 20000 in
theorem gX3_isRoot_X1_wipe_n188 : GoodIn wsX3_isRoot (wsX1_wipe) := ggX3_isRoot_X1_wipe
set_option maxRecDepth 20000 in
theorem ggX3_isRoot_X1_addWithNumber : GoodIn wsX3_isRoot wsX1_addWithNumber := goodIn_r _ [12, 13, 14, 15, 16, 17, 18, 19, 20, 21, 22, 3, 23, 9, 7, 24, 6, 8, 39, 40, 41, 42, 43, 34, 35, 36, 37, 38] (by decide +kernel) (by decide +kernel)
set_option maxRecDepth 20000 in
theorem gX3_isRoot_X1_addWithNumber_n236 : GoodIn wsX3_isRoot (wsX1_addWithNumber) := ggX3_isRoot_X1_addWithNumber
set_option maxRecDepth 20000 in
theorem ggX3_isRoot_X1_isZero : GoodIn wsX3_isRoot wsX1_isZero := goodIn_r _ [27, 6, 24, 9, 34, 35, 36, 37, 38] (by decide +kernel) (by decide +kernel)
set_option maxRecDepth 20000 in
theorem gX3_isRoot_X1_isZero_n230 : GoodIn wsX3_isRoot (wsX1_isZero) := ggX3_isRoot_X1_isZero
theorem dX3_isRoot_0 : decode cX3_isRoot 0 = .ok (.aload_n 0, 1) := by decide +kernel
theorem dX3_isRoot_1 : decode cX3_isRoot 1 = .ok (.getfield 23, 3) := by decide +kernel
theorem dX3_isRoot_4 : decode cX3_isRoot 4 = .ok (.invokevirtual 188, 3) := by decide +kernel
theorem dX3_isRoot_7 : decode cX3_isRoot 7 = .ok (.aload_n 0, 1) := by decide +kernel
theorem dX3_isRoot_8 : decode cX3_isRoot 8 = .ok (.getfield 23, 3) := by decide +kernel
theorem dX3_isRoot_11 : decode cX3_isRoot 11 = .ok (.aload_n 1, 1) := by decide +kernel
theorem dX3_isRoot_12 : decode cX3_isRoot 12 = .ok (.iload_n 2, 1) := by decide +kernel
theorem dX3_isRoot_13 : decode cX3_isRoot 13 = .ok (.iload_n 3, 1) := by decide +kernel
theorem dX3_isRoot_14 : decode cX3_isRoot 14 = .ok (.invokevirtual 236, 3) := by decide +kernel
theorem dX3_isRoot_17 : decode cX3_isRoot 17 = .ok (.aload_n 0, 1) := by decide +kernel
theorem dX3_isRoot_18 : decode cX3_isRoot 18 = .ok (.getfield 23, 3) := by decide +kernel
theorem dX3_isRoot_21 : decode cX3_isRoot 21 = .ok (.invokevirtual 230, 3) := by decide +kernel
theorem dX3_isRoot_24 : decode cX3_isRoot 24 = .ok (.ireturn, 1) := by decide +kernel
set_option maxRecDepth 20000 in
theorem ggX3_valueAt_X3_powerIn : GoodIn wsX3_valueAt wsX3_powerIn := goodIn_r _ [4] (by decide +kernel) (by decide +kernel)
set_option maxRecDepth 20000 in
theorem gX3_valueAt_X3_powerIn : GoodIn wsX3_valueAt (va_wsS RX3 246 yX3_powerIn wsX3_powerIn) := goodIn_app (goodIn_of _ (by decide +kernel)) ggX3_valueAt_X3_powerIn
set_option maxRecDepth 20000 in
theorem ggX3_valueAt_X3_power : GoodIn wsX3_valueAt wsX3_power := goodIn_r _ [7] (by decide +kernel) (by decide +kernel)
set_option maxRecDepth 20000 in
theorem gX3_valueAt_X3_power : GoodIn wsX3_valueAt (va_wsS RX3 249 yX3_power wsX3_power) := goodIn_app (goodIn_of _ (by decide +kernel)) ggX3_valueAt_X3_power
theorem dX3_valueAt_0 : decode cX3_valueAt 0 = .ok (.lconst 0, 1) := by decide +kernel
theorem dX3_valueAt_1 : decode cX3_valueAt 1 = .ok (.lstore_n 2, 1) := by decide +kernel
theorem dX3_valueAt_2 : decode cX3_valueAt 2 = .ok (.iconst 0, 1) := by decide +kernel
theorem dX3_valueAt_3 : decode cX3_valueAt 3 = .ok (.istore 4, 2) := by decide +kernel
theorem dX3_valueAt_5 : decode cX3_valueAt 5 = .ok (.iload 4, 2) := by decide +kernel
theorem dX3_valueAt_7 : decode cX3_valueAt 7 = .ok (.aload_n 0, 1) := by decide +kernel
theorem dX3_valueAt_8 : decode cX3_valueAt 8 = .ok (.getfield 155, 3) := by decide +kernel
theorem dX3_valueAt_11 : decode cX3_valueAt 11 = .ok (.if_icmp .ge 65, 3) := by decide +kernel
theorem dX3_valueAt_14 : decode cX3_valueAt 14 = .ok (.aload_n 0, 1) := by decide +kernel
theorem dX3_valueAt_15 : decode cX3_valueAt 15 = .ok (.getfield 240, 3) := by decide +kernel
theorem dX3_valueAt_18 : decode cX3_valueAt 18 = .ok (.iload 4, 2) := by decide +kernel
theorem dX3_valueAt_20 : decode cX3_valueAt 20 = .ok (.iaload, 1) := by decide +kernel
theorem dX3_valueAt_21 : decode cX3_valueAt 21 = .ok (.i2l, 1) := by decide +kernel
theorem dX3_valueAt_22 : decode cX3_valueAt 22 = .ok (.lstore 5, 2) := by decide +kernel
theorem dX3_valueAt_24 : decode cX3_valueAt 24 = .ok (.iconst 0, 1) := by decide +kernel
theorem dX3_valueAt_25 : decode cX3_valueAt 25 = .ok (.istore 7, 2) := by decide +kernel
theorem dX3_valueAt_27 : decode cX3_valueAt 27 = .ok (.iload 7, 2) := by decide +kernel
theorem dX3_valueAt_29 : decode cX3_valueAt 29 = .ok (.iconst 3, 1) := by decide +kernel
theorem dX3_valueAt_30 : decode cX3_valueAt 30 = .ok (.if_icmp .ge 35, 3) := by decide +kernel
theorem dX3_valueAt_33 : decode cX3_valueAt 33 = .ok (.lload 5, 2) := by decide +kernel
theorem dX3_valueAt_35 : decode cX3_valueAt 35 = .ok (.aload_n 1, 1) := by decide +kernel
theorem dX3_valueAt_36 : decode cX3_valueAt 36 = .ok (.iconst 5, 1) := by decide +kernel
theorem dX3_valueAt_37 : decode cX3_valueAt 37 = .ok (.iload 7, 2) := by decide +kernel
theorem dX3_valueAt_39 : decode cX3_valueAt 39 = .ok (.iadd, 1) := by decide +kernel
theorem dX3_valueAt_40 : decode cX3_valueAt 40 = .ok (.iaload, 1) := by decide +kernel
theorem dX3_valueAt_41 : decode cX3_valueAt 41 = .ok (.aload_n 0, 1) := by decide +kernel
theorem dX3_valueAt_42 : decode cX3_valueAt 42 = .ok (.getfield 243, 3) := by decide +kernel
theorem dX3_valueAt_45 : decode cX3_valueAt 45 = .ok (.iload 4, 2) := by decide +kernel
theorem dX3_valueAt_47 : decode cX3_valueAt 47 = .ok (.iaload, 1) := by decide +kernel
theorem dX3_valueAt_48 : decode cX3_valueAt 48 = .ok (.iload 7, 2) := by decide +kernel
theorem dX3_valueAt_50 : decode cX3_valueAt 50 = .ok (.invokestatic 246, 3) := by decide +kernel
theorem dX3_valueAt_53 : decode cX3_valueAt 53 = .ok (.invokestatic 249, 3) := by decide +kernel
theorem dX3_valueAt_56 : decode cX3_valueAt 56 = .ok (.lmul, 1) := by decide +kernel
theorem dX3_valueAt_57 : decode cX3_valueAt 57 = .ok (.lstore 5, 2) := by decide +kernel
theorem dX3_valueAt_59 : decode cX3_valueAt 59 = .ok (.iinc 7 1, 3) := by decide +kernel
theorem dX3_valueAt_62 : decode cX3_valueAt 62 = .ok (.goto (-35), 3) := by decide +kernel
theorem dX3_valueAt_65 : decode cX3_valueAt 65 = .ok (.lload_n 2, 1) := by decide +kernel
theorem dX3_valueAt_66 : decode cX3_valueAt 66 = .ok (.lload 5, 2) := by decide +kernel
theorem dX3_valueAt_68 : decode cX3_valueAt 68 = .ok (.ladd, 1) := by decide +kernel
theorem dX3_valueAt_69 : decode cX3_valueAt 69 = .ok (.lstore_n 2, 1) := by decide +kernel
theorem dX3_valueAt_70 : decode cX3_valueAt 70 = .ok (.iinc 4 1, 3) := by decide +kernel
theorem dX3_valueAt_73 : decode cX3_valueAt 73 = .ok (.goto (-68), 3) := by decide +kernel
theorem dX3_valueAt_76 : decode cX3_valueAt 76 = .ok (.lload_n 2, 1) := by decide +kernel
theorem dX3_valueAt_77 : decode cX3_valueAt 77 = .ok (.lreturn, 1) := by decide +kernel
theorem dX3_power_0 : decode cX3_power 0 = .ok (.lconst 1, 1) := by decide +kernel
theorem dX3_power_1 : decode cX3_power 1 = .ok (.lstore_n 2, 1) := by decide +kernel
theorem dX3_power_2 : decode cX3_power 2 = .ok (.iconst 0, 1) := by decide +kernel
theorem dX3_power_3 : decode cX3_power 3 = .ok (.istore 4, 2) := by decide +kernel
theorem dX3_power_5 : decode cX3_power 5 = .ok (.iload 4, 2) := by decide +kernel
theorem dX3_power_7 : decode cX3_power 7 = .ok (.iload_n 1, 1) := by decide +kernel
theorem dX3_power_8 : decode cX3_power 8 = .ok (.if_icmp .ge 14, 3) := by decide +kernel
theorem dX3_power_11 : decode cX3_power 11 = .ok (.lload_n 2, 1) := by decide +kernel
theorem dX3_power_12 : decode cX3_power 12 = .ok (.iload_n 0, 1) := by decide +kernel
theorem dX3_power_13 : decode cX3_power 13 = .ok (.i2l, 1) := by decide +kernel
theorem dX3_power_14 : decode cX3_power 14 = .ok (.lmul, 1) := by decide +kernel
theorem dX3_power_15 : decode cX3_power 15 = .ok (.lstore_n 2, 1) := by decide +kernel
theorem dX3_power_16 : decode cX3_power 16 = .ok (.iinc 4 1, 3) := by decide +kernel
theorem dX3_power_19 : decode cX3_power 19 = .ok (.goto (-14), 3) := by decide +kernel
theorem dX3_power_22 : decode cX3_power 22 = .ok (.lload_n 2, 1) := by decide +kernel
theorem dX3_power_23 : decode cX3_power 23 = .ok (.lreturn, 1) := by decide +kernel
theorem dX3_keyOfLetter_0 : decode cX3_keyOfLetter 0 = .ok (.iload_n 0, 1) := by decide +kernel
theorem dX3_keyOfLetter_1 : decode cX3_keyOfLetter 1 = .ok (.ifCond .ne 8, 3) := by decide +kernel
theorem dX3_keyOfLetter_4 : decode cX3_keyOfLetter 4 = .ok (.bipush 100, 2) := by decide +kernel
theorem dX3_keyOfLetter_6 : decode cX3_keyOfLetter 6 = .ok (.goto 14, 3) := by decide +kernel
theorem dX3_keyOfLetter_9 : decode cX3_keyOfLetter 9 = .ok (.iload_n 0, 1) := by decide +kernel
theorem dX3_keyOfLetter_10 : decode cX3_keyOfLetter 10 = .ok (.iconst 1, 1) := by decide +kernel
theorem dX3_keyOfLetter_11 : decode cX3_keyOfLetter 11 = .ok (.if_icmp .ne 8, 3) := by decide +kernel
theorem dX3_keyOfLetter_14 : decode cX3_keyOfLetter 14 = .ok (.bipush 10, 2) := by decide +kernel
theorem dX3_keyOfLetter_16 : decode cX3_keyOfLetter 16 = .ok (.goto 4, 3) := by decide +kernel
theorem dX3_keyOfLetter_19 : decode cX3_keyOfLetter 19 = .ok (.iconst 1, 1) := by decide +kernel
theorem dX3_keyOfLetter_20 : decode cX3_keyOfLetter 20 = .ok (.ireturn, 1) := by decide +kernel
theorem dX3_powerIn_0 : decode cX3_powerIn 0 = .ok (.iload_n 1, 1) := by decide +kernel
theorem dX3_powerIn_1 : decode cX3_powerIn 1 = .ok (.ifCond .ne 10, 3) := by decide +kernel
theorem dX3_powerIn_4 : decode cX3_powerIn 4 = .ok (.iload_n 0, 1) := by decide +kernel
theorem dX3_powerIn_5 : decode cX3_powerIn 5 = .ok (.bipush 100, 2) := by decide +kernel
theorem dX3_powerIn_7 : decode cX3_powerIn 7 = .ok (.idiv, 1) := by decide +kernel
theorem dX3_powerIn_8 : decode cX3_powerIn 8 = .ok (.goto 22, 3) := by decide +kernel
theorem dX3_powerIn_11 : decode cX3_powerIn 11 = .ok (.iload_n 1, 1) := by decide +kernel
theorem dX3_powerIn_12 : decode cX3_powerIn 12 = .ok (.iconst 1, 1) := by decide +kernel
theorem dX3_powerIn_13 : decode cX3_powerIn 13 = .ok (.if_icmp .ne 13, 3) := by decide +kernel
theorem dX3_powerIn_16 : decode cX3_powerIn 16 = .ok (.iload_n 0, 1) := by decide +kernel
theorem dX3_powerIn_17 : decode cX3_powerIn 17 = .ok (.bipush 10, 2) := by decide +kernel
theorem dX3_powerIn_19 : decode cX3_powerIn 19 = .ok (.idiv, 1) := by decide +kernel
theorem dX3_powerIn_20 : decode cX3_powerIn 20 = .ok (.bipush 10, 2) := by decide +kernel
theorem dX3_powerIn_22 : decode cX3_powerIn 22 = .ok (.irem, 1) := by decide +kernel
theorem dX3_powerIn_23 : decode cX3_powerIn 23 = .ok (.goto 7, 3) := by decide +kernel
theorem dX3_powerIn_26 : decode cX3_powerIn 26 = .ok (.iload_n 0, 1) := by decide +kernel
theorem dX3_powerIn_27 : decode cX3_powerIn 27 = .ok (.bipush 10, 2) := by decide +kernel
theorem dX3_powerIn_29 : decode cX3_powerIn 29 = .ok (.irem, 1) := by decide +kernel
theorem dX3_powerIn_30 : decode cX3_powerIn 30 = .ok (.ireturn, 1) := by decide +kernel
set_option maxRecDepth 20000 in
theorem ggX3_degreeOf_X3_powerIn : GoodIn wsX3_degreeOf wsX3_powerIn := goodIn_r _ [4] (by decide +kernel) (by decide +kernel)
set_option maxRecDepth 20000 in
theorem gX3_degreeOf_X3_powerIn : GoodIn wsX3_degreeOf (va_wsS RX3 246 yX3_powerIn wsX3_powerIn) := goodIn_app (goodIn_of _ (by decide +kernel)) ggX3_degreeOf_X3_powerIn
theorem dX3_degreeOf_0 : decode cX3_degreeOf 0 = .ok (.iload_n 0, 1) := by decide +kernel
theorem dX3_degreeOf_1 : decode cX3_degreeOf 1 = .ok (.iconst 0, 1) := by decide +kernel
theorem dX3_degreeOf_2 : decode cX3_degreeOf 2 = .ok (.invokestatic 246, 3) := by decide +kernel
theorem dX3_degreeOf_5 : decode cX3_degreeOf 5 = .ok (.iload_n 0, 1) := by decide +kernel
theorem dX3_degreeOf_6 : decode cX3_degreeOf 6 = .ok (.iconst 1, 1) := by decide +kernel
theorem dX3_degreeOf_7 : decode cX3_degreeOf 7 = .ok (.invokestatic 246, 3) := by decide +kernel
theorem dX3_degreeOf_10 : decode cX3_degreeOf 10 = .ok (.iadd, 1) := by decide +kernel
theorem dX3_degreeOf_11 : decode cX3_degreeOf 11 = .ok (.iload_n 0, 1) := by decide +kernel
theorem dX3_degreeOf_12 : decode cX3_degreeOf 12 = .ok (.iconst 2, 1) := by decide +kernel
theorem dX3_degreeOf_13 : decode cX3_degreeOf 13 = .ok (.invokestatic 246, 3) := by decide +kernel
theorem dX3_degreeOf_16 : decode cX3_degreeOf 16 = .ok (.iadd, 1) := by decide +kernel
theorem dX3_degreeOf_17 : decode cX3_degreeOf 17 = .ok (.ireturn, 1) := by decide +kernel
theorem dX4_init_0 : decode cX4_init 0 = .ok (.aload_n 0, 1) := by decide +kernel
theorem dX4_init_1 : decode cX4_init 1 = .ok (.invokespecial 1, 3) := by decide +kernel
theorem dX4_init_4 : decode cX4_init 4 = .ok (.aload_n 0, 1) := by decide +kernel
theorem dX4_init_5 : decode cX4_init 5 = .ok (.bipush 120, 2) := by decide +kernel
theorem dX4_init_7 : decode cX4_init 7 = .ok (.newarray .int, 2) := by decide +kernel
theorem dX4_init_9 : decode cX4_init 9 = .ok (.putfield 7, 3) := by decide +kernel
theorem dX4_init_12 : decode cX4_init 12 = .ok (.aload_n 0, 1) := by decide +kernel
theorem dX4_init_13 : decode cX4_init 13 = .ok (.bipush 120, 2) := by decide +kernel
theorem dX4_init_15 : decode cX4_init 15 = .ok (.newarray .int, 2) := by decide +kernel
theorem dX4_init_17 : decode cX4_init 17 = .ok (.putfield 13, 3) := by decide +kernel
theorem dX4_init_20 : decode cX4_init 20 = .ok (.aload_n 0, 1) := by decide +kernel
