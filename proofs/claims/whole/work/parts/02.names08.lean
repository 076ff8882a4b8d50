theorem dX4_isZeroAt_84 : decode cX4_isZeroAt 84 = .ok (.i2l, 1) := by decide +kernel
theorem dX4_isZeroAt_85 : decode cX4_isZeroAt 85 = .ok (.lstore 7, 2) := by decide +kernel
theorem dX4_isZeroAt_87 : decode cX4_isZeroAt 87 = .ok (.aload_n 0, 1) := by decide +kernel
theorem dX4_isZeroAt_88 : decode cX4_isZeroAt 88 = .ok (.getfield 45, 3) := by decide +kernel
theorem dX4_isZeroAt_91 : decode cX4_isZeroAt 91 = .ok (.iload_n 3, 1) := by decide +kernel
theorem dX4_isZeroAt_92 : decode cX4_isZeroAt 92 = .ok (.ifCond .ne 14, 3) := by decide +kernel
theorem dX4_isZeroAt_95 : decode cX4_isZeroAt 95 = .ok (.iconst 0, 1) := by decide +kernel
theorem dX4_isZeroAt_96 : decode cX4_isZeroAt 96 = .ok (.iload 5, 2) := by decide +kernel
theorem dX4_isZeroAt_98 : decode cX4_isZeroAt 98 = .ok (.iload 6, 2) := by decide +kernel
theorem dX4_isZeroAt_100 : decode cX4_isZeroAt 100 = .ok (.invokestatic 99, 3) := by decide +kernel
theorem dX4_isZeroAt_103 : decode cX4_isZeroAt 103 = .ok (.goto 27, 3) := by decide +kernel
theorem dX4_isZeroAt_106 : decode cX4_isZeroAt 106 = .ok (.iload_n 3, 1) := by decide +kernel
theorem dX4_isZeroAt_107 : decode cX4_isZeroAt 107 = .ok (.iconst 1, 1) := by decide +kernel
theorem dX4_isZeroAt_108 : decode cX4_isZeroAt 108 = .ok (.if_icmp .ne 14, 3) := by decide +kernel
theorem dX4_isZeroAt_111 : decode cX4_isZeroAt 111 = .ok (.iload 4, 2) := by decide +kernel
theorem dX4_isZeroAt_113 : decode cX4_isZeroAt 113 = .ok (.iconst 0, 1) := by decide +kernel
theorem dX4_isZeroAt_114 : decode cX4_isZeroAt 114 = .ok (.iload 6, 2) := by decide +kernel
theorem dX4_isZeroAt_116 : decode cX4_isZeroAt 116 = .ok (.invokestatic 99, 3) := by decide +kernel
theorem dX4_isZeroAt_119 : decode cX4_isZeroAt 119 = .ok (.goto 11, 3) := by decide +kernel
theorem dX4_isZeroAt_122 : decode cX4_isZeroAt 122 = .ok (.iload 4, 2) := by decide +kernel
theorem dX4_isZeroAt_124 : decode cX4_isZeroAt 124 = .ok (.iload 5, 2) := by decide +kernel
theorem dX4_isZeroAt_126 : decode cX4_isZeroAt 126 = .ok (.iconst 0, 1) := by decide +kernel
theorem dX4_isZeroAt_127 : decode cX4_isZeroAt 127 = .ok (.invokestatic 99, 3) := by decide +kernel
theorem dX4_isZeroAt_130 : decode cX4_isZeroAt 130 = .ok (.dup2, 1) := by decide +kernel
theorem dX4_isZeroAt_131 : decode cX4_isZeroAt 131 = .ok (.laload, 1) := by decide +kernel
theorem dX4_isZeroAt_132 : decode cX4_isZeroAt 132 = .ok (.lload 7, 2) := by decide +kernel
theorem dX4_isZeroAt_134 : decode cX4_isZeroAt 134 = .ok (.iload_n 2, 1) := by decide +kernel
theorem dX4_isZeroAt_135 : decode cX4_isZeroAt 135 = .ok (.i2l, 1) := by decide +kernel
theorem dX4_isZeroAt_136 : decode cX4_isZeroAt 136 = .ok (.iload_n 3, 1) := by decide +kernel
theorem dX4_isZeroAt_137 : decode cX4_isZeroAt 137 = .ok (.ifCond .ne 8, 3) := by decide +kernel
theorem dX4_isZeroAt_140 : decode cX4_isZeroAt 140 = .ok (.iload 4, 2) := by decide +kernel
theorem dX4_isZeroAt_142 : decode cX4_isZeroAt 142 = .ok (.goto 15, 3) := by decide +kernel
theorem dX4_isZeroAt_145 : decode cX4_isZeroAt 145 = .ok (.iload_n 3, 1) := by decide +kernel
theorem dX4_isZeroAt_146 : decode cX4_isZeroAt 146 = .ok (.iconst 1, 1) := by decide +kernel
theorem dX4_isZeroAt_147 : decode cX4_isZeroAt 147 = .ok (.if_icmp .ne 8, 3) := by decide +kernel
theorem dX4_isZeroAt_150 : decode cX4_isZeroAt 150 = .ok (.iload 5, 2) := by decide +kernel
theorem dX4_isZeroAt_152 : decode cX4_isZeroAt 152 = .ok (.goto 5, 3) := by decide +kernel
theorem dX4_isZeroAt_155 : decode cX4_isZeroAt 155 = .ok (.iload 6, 2) := by decide +kernel
theorem dX4_isZeroAt_157 : decode cX4_isZeroAt 157 = .ok (.invokestatic 129, 3) := by decide +kernel
theorem dX4_isZeroAt_160 : decode cX4_isZeroAt 160 = .ok (.lmul, 1) := by decide +kernel
theorem dX4_isZeroAt_161 : decode cX4_isZeroAt 161 = .ok (.ladd, 1) := by decide +kernel
theorem dX4_isZeroAt_162 : decode cX4_isZeroAt 162 = .ok (.lastore, 1) := by decide +kernel
theorem dX4_isZeroAt_163 : decode cX4_isZeroAt 163 = .ok (.iinc 6 1, 3) := by decide +kernel
theorem dX4_isZeroAt_166 : decode cX4_isZeroAt 166 = .ok (.goto (-115), 3) := by decide +kernel
theorem dX4_isZeroAt_169 : decode cX4_isZeroAt 169 = .ok (.iinc 5 1, 3) := by decide +kernel
theorem dX4_isZeroAt_172 : decode cX4_isZeroAt 172 = .ok (.goto (-134), 3) := by decide +kernel
theorem dX4_isZeroAt_175 : decode cX4_isZeroAt 175 = .ok (.iinc 4 1, 3) := by decide +kernel
theorem dX4_isZeroAt_178 : decode cX4_isZeroAt 178 = .ok (.goto (-150), 3) := by decide +kernel
theorem dX4_isZeroAt_181 : decode cX4_isZeroAt 181 = .ok (.iconst 1, 1) := by decide +kernel
theorem dX4_isZeroAt_182 : decode cX4_isZeroAt 182 = .ok (.istore 4, 2) := by decide +kernel
theorem dX4_isZeroAt_184 : decode cX4_isZeroAt 184 = .ok (.iconst 0, 1) := by decide +kernel
theorem dX4_isZeroAt_185 : decode cX4_isZeroAt 185 = .ok (.istore 5, 2) := by decide +kernel
theorem dX4_isZeroAt_187 : decode cX4_isZeroAt 187 = .ok (.iload 5, 2) := by decide +kernel
theorem dX4_isZeroAt_189 : decode cX4_isZeroAt 189 = .ok (.sipush 220, 3) := by decide +kernel
theorem dX4_isZeroAt_192 : decode cX4_isZeroAt 192 = .ok (.if_icmp .ge 33, 3) := by decide +kernel
theorem dX4_isZeroAt_195 : decode cX4_isZeroAt 195 = .ok (.iload 4, 2) := by decide +kernel
theorem dX4_isZeroAt_197 : decode cX4_isZeroAt 197 = .ok (.ifCond .eq 19, 3) := by decide +kernel
theorem dX4_isZeroAt_200 : decode cX4_isZeroAt 200 = .ok (.aload_n 0, 1) := by decide +kernel
theorem dX4_isZeroAt_201 : decode cX4_isZeroAt 201 = .ok (.getfield 45, 3) := by decide +kernel
theorem dX4_isZeroAt_204 : decode cX4_isZeroAt 204 = .ok (.iload 5, 2) := by decide +kernel
theorem dX4_isZeroAt_206 : decode cX4_isZeroAt 206 = .ok (.laload, 1) := by decide +kernel
theorem dX4_isZeroAt_207 : decode cX4_isZeroAt 207 = .ok (.lconst 0, 1) := by decide +kernel
theorem dX4_isZeroAt_208 : decode cX4_isZeroAt 208 = .ok (.lcmp, 1) := by decide +kernel
theorem dX4_isZeroAt_209 : decode cX4_isZeroAt 209 = .ok (.ifCond .ne 7, 3) := by decide +kernel
theorem dX4_isZeroAt_212 : decode cX4_isZeroAt 212 = .ok (.iconst 1, 1) := by decide +kernel
theorem dX4_isZeroAt_213 : decode cX4_isZeroAt 213 = .ok (.goto 4, 3) := by decide +kernel
theorem dX4_isZeroAt_216 : decode cX4_isZeroAt 216 = .ok (.iconst 0, 1) := by decide +kernel
theorem dX4_isZeroAt_217 : decode cX4_isZeroAt 217 = .ok (.istore 4, 2) := by decide +kernel
theorem dX4_isZeroAt_219 : decode cX4_isZeroAt 219 = .ok (.iinc 5 1, 3) := by decide +kernel
theorem dX4_isZeroAt_222 : decode cX4_isZeroAt 222 = .ok (.goto (-35), 3) := by decide +kernel
theorem dX4_isZeroAt_225 : decode cX4_isZeroAt 225 = .ok (.iload 4, 2) := by decide +kernel
theorem dX4_isZeroAt_227 : decode cX4_isZeroAt 227 = .ok (.ireturn, 1) := by decide +kernel
set_option maxRecDepth 20000 in
theorem ggX4_holds_X4_treesIn : GoodIn wsX4_holds wsX4_treesIn := goodIn_r _ [8] (by decide +kernel) (by decide +kernel)
set_option maxRecDepth 20000 in
theorem gX4_holds_X4_treesIn : GoodIn wsX4_holds (va_wsS RX4 119 yX4_treesIn wsX4_treesIn) := goodIn_app (goodIn_of _ (by decide +kernel)) ggX4_holds_X4_treesIn
set_option maxRecDepth 20000 in
theorem ggX4_holds_X4_isSame : GoodIn wsX4_holds wsX4_isSame := goodIn_r _ [12, 13, 14, 15, 16, 17, 7, 18, 66, 67, 68, 69, 70, 71, 72, 73, 74, 75, 76, 77, 78, 79, 80, 81, 82] (by decide +kernel) (by decide +kernel)
set_option maxRecDepth 20000 in
theorem gX4_holds_X4_isSame : GoodIn wsX4_holds (wsV RX4 136 RX4 yX4_isSame wsX4_isSame) := goodIn_app (goodIn_of _ (by decide +kernel)) ggX4_holds_X4_isSame
set_option maxRecDepth 20000 in
theorem ggX4_holds_X4_isSlope : GoodIn wsX4_holds wsX4_isSlope := goodIn_r _ [22, 13, 14, 23, 24, 7, 25, 26, 27, 28, 29, 30, 31, 15, 16, 17, 18, 66, 67, 68, 69, 70, 71, 72, 73, 74, 75, 76, 77, 78, 79, 80, 81, 82] (by decide +kernel) (by decide +kernel)
set_option maxRecDepth 20000 in
theorem gX4_holds_X4_isSlope : GoodIn wsX4_holds (wsV RX4 140 RX4 yX4_isSlope wsX4_isSlope) := goodIn_app (goodIn_of _ (by decide +kernel)) ggX4_holds_X4_isSlope
set_option maxRecDepth 20000 in
theorem ggX4_holds_X4_isProduct : GoodIn wsX4_holds wsX4_isProduct := goodIn_r _ [35, 36, 37, 38, 39, 7, 40, 13, 14, 41, 42, 43, 44, 26, 27, 28, 23, 24, 25, 29, 30, 31, 45, 46, 47, 48, 15, 16, 17, 18, 66, 67, 68, 69, 70, 71, 72, 73, 74, 75, 76, 77, 78, 79, 80, 81, 82] (by decide +kernel) (by decide +kernel)
set_option maxRecDepth 20000 in
theorem gX4_holds_X4_isProduct : GoodIn wsX4_holds (wsV RX4 144 RX4 yX4_isProduct wsX4_isProduct) := goodIn_app (goodIn_of _ (by decide +kernel)) ggX4_holds_X4_isProduct
set_option maxRecDepth 20000 in
theorem ggX4_holds_X4_isZeroAt : GoodIn wsX4_holds wsX4_isZeroAt := goodIn_r _ [52, 53, 14, 23, 24, 7, 25, 26, 27, 28, 29, 30, 31, 54, 55, 56, 66, 67, 68, 69, 70, 71, 72, 73, 74, 75, 76, 77, 78, 79, 80, 81, 82] (by decide +kernel) (by decide +kernel)
set_option maxRecDepth 20000 in
theorem gX4_holds_X4_isZeroAt : GoodIn wsX4_holds (wsV RX4 147 RX4 yX4_isZeroAt wsX4_isZeroAt) := goodIn_app (goodIn_of _ (by decide +kernel)) ggX4_holds_X4_isZeroAt
set_option maxRecDepth 20000 in
theorem ggX4_holds_X4_value : GoodIn wsX4_holds wsX4_value := goodIn_r _ [60, 14, 61, 23, 24, 7, 25, 26, 27, 28, 29, 30, 31, 54, 55, 56, 66, 67, 68, 69, 70, 71, 72, 73, 74, 75, 76, 77, 78, 79, 80, 81, 82] (by decide +kernel) (by decide +kernel)
set_option maxRecDepth 20000 in
theorem gX4_holds_X4_value : GoodIn wsX4_holds (wsV RX4 150 RX4 yX4_value wsX4_value) := goodIn_app (goodIn_of _ (by decide +kernel)) ggX4_holds_X4_value
set_option maxRecDepth 20000 in
theorem ggX4_holds_X4_isNone : GoodIn wsX4_holds wsX4_isNone := goodIn_r _ [65, 41, 42, 43, 7, 44, 14, 26, 27, 28, 66, 67, 68, 69, 70, 71, 72, 73, 74, 75, 76, 77, 78, 79, 80, 81, 82] (by decide +kernel) (by decide +kernel)
set_option maxRecDepth 20000 in
theorem gX4_holds_X4_isNone : GoodIn wsX4_holds (wsV RX4 154 RX4 yX4_isNone wsX4_isNone) := goodIn_app (goodIn_of _ (by decide +kernel)) ggX4_holds_X4_isNone
theorem dX4_holds_0 : decode cX4_holds 0 = .ok (.aload_n 0, 1) := by decide +kernel
theorem dX4_holds_1 : decode cX4_holds 1 = .ok (.getfield 29, 3) := by decide +kernel
theorem dX4_holds_4 : decode cX4_holds 4 = .ok (.iload_n 1, 1) := by decide +kernel
theorem dX4_holds_5 : decode cX4_holds 5 = .ok (.iaload, 1) := by decide +kernel
theorem dX4_holds_6 : decode cX4_holds 6 = .ok (.istore_n 2, 1) := by decide +kernel
theorem dX4_holds_7 : decode cX4_holds 7 = .ok (.aload_n 0, 1) := by decide +kernel
theorem dX4_holds_8 : decode cX4_holds 8 = .ok (.getfield 32, 3) := by decide +kernel
theorem dX4_holds_11 : decode cX4_holds 11 = .ok (.iconst 3, 1) := by decide +kernel
theorem dX4_holds_12 : decode cX4_holds 12 = .ok (.iload_n 1, 1) := by decide +kernel
theorem dX4_holds_13 : decode cX4_holds 13 = .ok (.imul, 1) := by decide +kernel
theorem dX4_holds_14 : decode cX4_holds 14 = .ok (.iaload, 1) := by decide +kernel
theorem dX4_holds_15 : decode cX4_holds 15 = .ok (.istore_n 3, 1) := by decide +kernel
theorem dX4_holds_16 : decode cX4_holds 16 = .ok (.aload_n 0, 1) := by decide +kernel
theorem dX4_holds_17 : decode cX4_holds 17 = .ok (.getfield 32, 3) := by decide +kernel
theorem dX4_holds_20 : decode cX4_holds 20 = .ok (.iconst 3, 1) := by decide +kernel
theorem dX4_holds_21 : decode cX4_holds 21 = .ok (.iload_n 1, 1) := by decide +kernel
theorem dX4_holds_22 : decode cX4_holds 22 = .ok (.imul, 1) := by decide +kernel
theorem dX4_holds_23 : decode cX4_holds 23 = .ok (.iconst 1, 1) := by decide +kernel
theorem dX4_holds_24 : decode cX4_holds 24 = .ok (.iadd, 1) := by decide +kernel
theorem dX4_holds_25 : decode cX4_holds 25 = .ok (.iaload, 1) := by decide +kernel
theorem dX4_holds_26 : decode cX4_holds 26 = .ok (.istore 4, 2) := by decide +kernel
theorem dX4_holds_28 : decode cX4_holds 28 = .ok (.aload_n 0, 1) := by decide +kernel
theorem dX4_holds_29 : decode cX4_holds 29 = .ok (.getfield 32, 3) := by decide +kernel
theorem dX4_holds_32 : decode cX4_holds 32 = .ok (.iconst 3, 1) := by decide +kernel
theorem dX4_holds_33 : decode cX4_holds 33 = .ok (.iload_n 1, 1) := by decide +kernel
theorem dX4_holds_34 : decode cX4_holds 34 = .ok (.imul, 1) := by decide +kernel
theorem dX4_holds_35 : decode cX4_holds 35 = .ok (.iconst 2, 1) := by decide +kernel
theorem dX4_holds_36 : decode cX4_holds 36 = .ok (.iadd, 1) := by decide +kernel
theorem dX4_holds_37 : decode cX4_holds 37 = .ok (.iaload, 1) := by decide +kernel
theorem dX4_holds_38 : decode cX4_holds 38 = .ok (.istore 5, 2) := by decide +kernel
theorem dX4_holds_40 : decode cX4_holds 40 = .ok (.iconst 0, 1) := by decide +kernel
theorem dX4_holds_41 : decode cX4_holds 41 = .ok (.istore 6, 2) := by decide +kernel
theorem dX4_holds_43 : decode cX4_holds 43 = .ok (.iload 6, 2) := by decide +kernel
theorem dX4_holds_45 : decode cX4_holds 45 = .ok (.iload_n 2, 1) := by decide +kernel
theorem dX4_holds_46 : decode cX4_holds 46 = .ok (.invokestatic 119, 3) := by decide +kernel
theorem dX4_holds_49 : decode cX4_holds 49 = .ok (.if_icmp .ge 30, 3) := by decide +kernel
theorem dX4_holds_52 : decode cX4_holds 52 = .ok (.aload_n 0, 1) := by decide +kernel
theorem dX4_holds_53 : decode cX4_holds 53 = .ok (.getfield 25, 3) := by decide +kernel
theorem dX4_holds_56 : decode cX4_holds 56 = .ok (.aload_n 0, 1) := by decide +kernel
theorem dX4_holds_57 : decode cX4_holds 57 = .ok (.getfield 32, 3) := by decide +kernel
theorem dX4_holds_60 : decode cX4_holds 60 = .ok (.iconst 3, 1) := by decide +kernel
theorem dX4_holds_61 : decode cX4_holds 61 = .ok (.iload_n 1, 1) := by decide +kernel
theorem dX4_holds_62 : decode cX4_holds 62 = .ok (.imul, 1) := by decide +kernel
theorem dX4_holds_63 : decode cX4_holds 63 = .ok (.iload 6, 2) := by decide +kernel
theorem dX4_holds_65 : decode cX4_holds 65 = .ok (.iadd, 1) := by decide +kernel
theorem dX4_holds_66 : decode cX4_holds 66 = .ok (.iaload, 1) := by decide +kernel
theorem dX4_holds_67 : decode cX4_holds 67 = .ok (.baload, 1) := by decide +kernel
theorem dX4_holds_68 : decode cX4_holds 68 = .ok (.ifCond .eq 5, 3) := by decide +kernel
theorem dX4_holds_71 : decode cX4_holds 71 = .ok (.iconst 0, 1) := by decide +kernel
theorem dX4_holds_72 : decode cX4_holds 72 = .ok (.ireturn, 1) := by decide +kernel
theorem dX4_holds_73 : decode cX4_holds 73 = .ok (.iinc 6 1, 3) := by decide +kernel
theorem dX4_holds_76 : decode cX4_holds 76 = .ok (.goto (-33), 3) := by decide +kernel
theorem dX4_holds_79 : decode cX4_holds 79 = .ok (.iload_n 2, 1) := by decide +kernel
theorem dX4_holds_80 : decode cX4_holds 80 = .ok (.tableswitch 118 0 5 #[40, 48, 58, 68, 78, 101], 40) := by decide +kernel
theorem dX4_holds_120 : decode cX4_holds 120 = .ok (.aload_n 0, 1) := by decide +kernel
theorem dX4_holds_121 : decode cX4_holds 121 = .ok (.iload_n 3, 1) := by decide +kernel
theorem dX4_holds_122 : decode cX4_holds 122 = .ok (.iload 4, 2) := by decide +kernel
theorem dX4_holds_124 : decode cX4_holds 124 = .ok (.invokevirtual 136, 3) := by decide +kernel
theorem dX4_holds_127 : decode cX4_holds 127 = .ok (.ireturn, 1) := by decide +kernel
theorem dX4_holds_128 : decode cX4_holds 128 = .ok (.aload_n 0, 1) := by decide +kernel
theorem dX4_holds_129 : decode cX4_holds 129 = .ok (.iload_n 3, 1) := by decide +kernel
theorem dX4_holds_130 : decode cX4_holds 130 = .ok (.iload 4, 2) := by decide +kernel
theorem dX4_holds_132 : decode cX4_holds 132 = .ok (.iload 5, 2) := by decide +kernel
theorem dX4_holds_134 : decode cX4_holds 134 = .ok (.invokevirtual 140, 3) := by decide +kernel
theorem dX4_holds_137 : decode cX4_holds 137 = .ok (.ireturn, 1) := by decide +kernel
theorem dX4_holds_138 : decode cX4_holds 138 = .ok (.aload_n 0, 1) := by decide +kernel
theorem dX4_holds_139 : decode cX4_holds 139 = .ok (.iload_n 3, 1) := by decide +kernel
theorem dX4_holds_140 : decode cX4_holds 140 = .ok (.iload 4, 2) := by decide +kernel
theorem dX4_holds_142 : decode cX4_holds 142 = .ok (.iload 5, 2) := by decide +kernel
theorem dX4_holds_144 : decode cX4_holds 144 = .ok (.invokevirtual 144, 3) := by decide +kernel
theorem dX4_holds_147 : decode cX4_holds 147 = .ok (.ireturn, 1) := by decide +kernel
theorem dX4_holds_148 : decode cX4_holds 148 = .ok (.aload_n 0, 1) := by decide +kernel
theorem dX4_holds_149 : decode cX4_holds 149 = .ok (.iload_n 3, 1) := by decide +kernel
theorem dX4_holds_150 : decode cX4_holds 150 = .ok (.iload 4, 2) := by decide +kernel
theorem dX4_holds_152 : decode cX4_holds 152 = .ok (.iload 5, 2) := by decide +kernel
theorem dX4_holds_154 : decode cX4_holds 154 = .ok (.invokevirtual 147, 3) := by decide +kernel
theorem dX4_holds_157 : decode cX4_holds 157 = .ok (.ireturn, 1) := by decide +kernel
theorem dX4_holds_158 : decode cX4_holds 158 = .ok (.aload_n 0, 1) := by decide +kernel
theorem dX4_holds_159 : decode cX4_holds 159 = .ok (.iload_n 3, 1) := by decide +kernel
theorem dX4_holds_160 : decode cX4_holds 160 = .ok (.iload_n 1, 1) := by decide +kernel
theorem dX4_holds_161 : decode cX4_holds 161 = .ok (.invokevirtual 150, 3) := by decide +kernel
theorem dX4_holds_164 : decode cX4_holds 164 = .ok (.aload_n 0, 1) := by decide +kernel
theorem dX4_holds_165 : decode cX4_holds 165 = .ok (.iload 4, 2) := by decide +kernel
theorem dX4_holds_167 : decode cX4_holds 167 = .ok (.iload_n 1, 1) := by decide +kernel
theorem dX4_holds_168 : decode cX4_holds 168 = .ok (.invokevirtual 150, 3) := by decide +kernel
theorem dX4_holds_171 : decode cX4_holds 171 = .ok (.lcmp, 1) := by decide +kernel
theorem dX4_holds_172 : decode cX4_holds 172 = .ok (.ifCond .ne 7, 3) := by decide +kernel
theorem dX4_holds_175 : decode cX4_holds 175 = .ok (.iconst 1, 1) := by decide +kernel
theorem dX4_holds_176 : decode cX4_holds 176 = .ok (.goto 4, 3) := by decide +kernel
theorem dX4_holds_179 : decode cX4_holds 179 = .ok (.iconst 0, 1) := by decide +kernel
theorem dX4_holds_180 : decode cX4_holds 180 = .ok (.ireturn, 1) := by decide +kernel
theorem dX4_holds_181 : decode cX4_holds 181 = .ok (.aload_n 0, 1) := by decide +kernel
theorem dX4_holds_182 : decode cX4_holds 182 = .ok (.iload_n 3, 1) := by decide +kernel
theorem dX4_holds_183 : decode cX4_holds 183 = .ok (.iload_n 1, 1) := by decide +kernel
theorem dX4_holds_184 : decode cX4_holds 184 = .ok (.invokevirtual 150, 3) := by decide +kernel
theorem dX4_holds_187 : decode cX4_holds 187 = .ok (.lconst 0, 1) := by decide +kernel
theorem dX4_holds_188 : decode cX4_holds 188 = .ok (.lcmp, 1) := by decide +kernel
theorem dX4_holds_189 : decode cX4_holds 189 = .ok (.ifCond .le 7, 3) := by decide +kernel
theorem dX4_holds_192 : decode cX4_holds 192 = .ok (.iconst 1, 1) := by decide +kernel
theorem dX4_holds_193 : decode cX4_holds 193 = .ok (.goto 4, 3) := by decide +kernel
theorem dX4_holds_196 : decode cX4_holds 196 = .ok (.iconst 0, 1) := by decide +kernel
theorem dX4_holds_197 : decode cX4_holds 197 = .ok (.ireturn, 1) := by decide +kernel
theorem dX4_holds_198 : decode cX4_holds 198 = .ok (.aload_n 0, 1) := by decide +kernel
theorem dX4_holds_199 : decode cX4_holds 199 = .ok (.getfield 35, 3) := by decide +kernel
theorem dX4_holds_202 : decode cX4_holds 202 = .ok (.iload_n 1, 1) := by decide +kernel
theorem dX4_holds_203 : decode cX4_holds 203 = .ok (.iaload, 1) := by decide +kernel
theorem dX4_holds_204 : decode cX4_holds 204 = .ok (.iconst (-1), 1) := by decide +kernel
theorem dX4_holds_205 : decode cX4_holds 205 = .ok (.if_icmp .eq 46, 3) := by decide +kernel
theorem dX4_holds_208 : decode cX4_holds 208 = .ok (.aload_n 0, 1) := by decide +kernel
theorem dX4_holds_209 : decode cX4_holds 209 = .ok (.getfield 25, 3) := by decide +kernel
theorem dX4_holds_212 : decode cX4_holds 212 = .ok (.aload_n 0, 1) := by decide +kernel
theorem dX4_holds_213 : decode cX4_holds 213 = .ok (.getfield 35, 3) := by decide +kernel
theorem dX4_holds_216 : decode cX4_holds 216 = .ok (.iload_n 1, 1) := by decide +kernel
theorem dX4_holds_217 : decode cX4_holds 217 = .ok (.iaload, 1) := by decide +kernel
theorem dX4_holds_218 : decode cX4_holds 218 = .ok (.baload, 1) := by decide +kernel
theorem dX4_holds_219 : decode cX4_holds 219 = .ok (.ifCond .ne 32, 3) := by decide +kernel
theorem dX4_holds_222 : decode cX4_holds 222 = .ok (.aload_n 0, 1) := by decide +kernel
theorem dX4_holds_223 : decode cX4_holds 223 = .ok (.iload 4, 2) := by decide +kernel
theorem dX4_holds_225 : decode cX4_holds 225 = .ok (.invokevirtual 154, 3) := by decide +kernel
theorem dX4_holds_228 : decode cX4_holds 228 = .ok (.ifCond .ne 23, 3) := by decide +kernel
theorem dX4_holds_231 : decode cX4_holds 231 = .ok (.aload_n 0, 1) := by decide +kernel
theorem dX4_holds_232 : decode cX4_holds 232 = .ok (.iload_n 3, 1) := by decide +kernel
theorem dX4_holds_233 : decode cX4_holds 233 = .ok (.iload 4, 2) := by decide +kernel
theorem dX4_holds_235 : decode cX4_holds 235 = .ok (.aload_n 0, 1) := by decide +kernel
theorem dX4_holds_236 : decode cX4_holds 236 = .ok (.getfield 35, 3) := by decide +kernel
theorem dX4_holds_239 : decode cX4_holds 239 = .ok (.iload_n 1, 1) := by decide +kernel
theorem dX4_holds_240 : decode cX4_holds 240 = .ok (.iaload, 1) := by decide +kernel
theorem dX4_holds_241 : decode cX4_holds 241 = .ok (.invokevirtual 144, 3) := by decide +kernel
theorem dX4_holds_244 : decode cX4_holds 244 = .ok (.ifCond .eq 7, 3) := by decide +kernel
theorem dX4_holds_247 : decode cX4_holds 247 = .ok (.iconst 1, 1) := by decide +kernel
theorem dX4_holds_248 : decode cX4_holds 248 = .ok (.goto 4, 3) := by decide +kernel
theorem dX4_holds_251 : decode cX4_holds 251 = .ok (.iconst 0, 1) := by decide +kernel
theorem dX4_holds_252 : decode cX4_holds 252 = .ok (.ireturn, 1) := by decide +kernel
set_option maxRecDepth 20000 in
theorem ggX4_check_X4_holds : GoodIn wsX4_check wsX4_holds := goodIn_r _ [7, 8, 9, 10, 11, 12, 13, 6, 14, 15, 16, 17, 18, 19, 20, 21, 22, 23, 24, 25, 26, 27, 28, 29, 30, 31, 32, 33, 34, 35, 36, 37, 38, 39, 40, 41, 42, 43, 44, 45, 46, 47, 48, 49, 50, 51, 52, 53, 54, 55, 56, 57, 58, 59, 60, 61, 62, 63, 64, 65, 66, 67, 68, 69, 70, 71, 72, 73, 74, 75, 76, 77, 78, 79, 80, 81, 82, 83, 84, 85, 86, 87, 88] (by decide +kernel) (by decide +kernel)
set_option maxRecDepth 20000 in
theorem gX4_check_X4_holds : GoodIn wsX4_check (wsV RX4 157 RX4 yX4_holds wsX4_holds) := goodIn_app (goodIn_of _ (by decide +kernel)) ggX4_check_X4_holds
theorem dX4_check_0 : decode cX4_check 0 = .ok (.aload_n 0, 1) := by decide +kernel
theorem dX4_check_1 : decode cX4_check 1 = .ok (.iload_n 1, 1) := by decide +kernel
theorem dX4_check_2 : decode cX4_check 2 = .ok (.ifCond .lt 11, 3) := by decide +kernel
theorem dX4_check_5 : decode cX4_check 5 = .ok (.iload_n 2, 1) := by decide +kernel
theorem dX4_check_6 : decode cX4_check 6 = .ok (.aload_n 0, 1) := by decide +kernel
theorem dX4_check_7 : decode cX4_check 7 = .ok (.getfield 62, 3) := by decide +kernel
theorem dX4_check_10 : decode cX4_check 10 = .ok (.if_icmp .le 7, 3) := by decide +kernel
theorem dX4_check_13 : decode cX4_check 13 = .ok (.iconst 1, 1) := by decide +kernel
theorem dX4_check_14 : decode cX4_check 14 = .ok (.goto 4, 3) := by decide +kernel
theorem dX4_check_17 : decode cX4_check 17 = .ok (.iconst 0, 1) := by decide +kernel
theorem dX4_check_18 : decode cX4_check 18 = .ok (.putfield 51, 3) := by decide +kernel
theorem dX4_check_21 : decode cX4_check 21 = .ok (.iload_n 1, 1) := by decide +kernel
theorem dX4_check_22 : decode cX4_check 22 = .ok (.istore_n 3, 1) := by decide +kernel
theorem dX4_check_23 : decode cX4_check 23 = .ok (.aload_n 0, 1) := by decide +kernel
theorem dX4_check_24 : decode cX4_check 24 = .ok (.getfield 51, 3) := by decide +kernel
theorem dX4_check_27 : decode cX4_check 27 = .ok (.ifCond .ne 26, 3) := by decide +kernel
theorem dX4_check_30 : decode cX4_check 30 = .ok (.iload_n 3, 1) := by decide +kernel
theorem dX4_check_31 : decode cX4_check 31 = .ok (.iload_n 2, 1) := by decide +kernel
theorem dX4_check_32 : decode cX4_check 32 = .ok (.if_icmp .ge 21, 3) := by decide +kernel
theorem dX4_check_35 : decode cX4_check 35 = .ok (.aload_n 0, 1) := by decide +kernel
theorem dX4_check_36 : decode cX4_check 36 = .ok (.iload_n 3, 1) := by decide +kernel
theorem dX4_check_37 : decode cX4_check 37 = .ok (.invokevirtual 157, 3) := by decide +kernel
theorem dX4_check_40 : decode cX4_check 40 = .ok (.ifCond .ne 7, 3) := by decide +kernel
theorem dX4_check_43 : decode cX4_check 43 = .ok (.iload_n 3, 1) := by decide +kernel
theorem dX4_check_44 : decode cX4_check 44 = .ok (.iconst 1, 1) := by decide +kernel
theorem dX4_check_45 : decode cX4_check 45 = .ok (.iadd, 1) := by decide +kernel
theorem dX4_check_46 : decode cX4_check 46 = .ok (.ireturn, 1) := by decide +kernel
theorem dX4_check_47 : decode cX4_check 47 = .ok (.iinc 3 1, 3) := by decide +kernel
theorem dX4_check_50 : decode cX4_check 50 = .ok (.goto (-27), 3) := by decide +kernel
theorem dX4_check_53 : decode cX4_check 53 = .ok (.iconst 0, 1) := by decide +kernel
theorem dX4_check_54 : decode cX4_check 54 = .ok (.ireturn, 1) := by decide +kernel
set_option maxRecDepth 20000 in
theorem ggX4_rowAt_X4_isRow : GoodIn wsX4_rowAt wsX4_isRow := goodIn_r _ [11, 12, 13, 14, 10, 15, 16, 17, 18, 19, 20, 21, 22, 23, 24, 25, 26, 27, 28, 29, 30, 31, 32] (by decide +kernel) (by decide +kernel)
set_option maxRecDepth 20000 in
theorem gX4_rowAt_X4_isRow : GoodIn wsX4_rowAt (wsV RX4 126 RX4 yX4_isRow wsX4_isRow) := goodIn_app (goodIn_of _ (by decide +kernel)) ggX4_rowAt_X4_isRow
set_option maxRecDepth 20000 in
theorem ggX4_rowAt_X4_in : GoodIn wsX4_rowAt wsX4_in := goodIn_r _ [15] (by decide +kernel) (by decide +kernel)
set_option maxRecDepth 20000 in
theorem gX4_rowAt_X4_in : GoodIn wsX4_rowAt (va_wsS RX4 58 yX4_in wsX4_in) := goodIn_app (goodIn_of _ (by decide +kernel)) ggX4_rowAt_X4_in
theorem dX4_rowAt_0 : decode cX4_rowAt 0 = .ok (.aload_n 0, 1) := by decide +kernel
theorem dX4_rowAt_1 : decode cX4_rowAt 1 = .ok (.aload_n 0, 1) := by decide +kernel
theorem dX4_rowAt_2 : decode cX4_rowAt 2 = .ok (.iload_n 1, 1) := by decide +kernel
theorem dX4_rowAt_3 : decode cX4_rowAt 3 = .ok (.invokevirtual 126, 3) := by decide +kernel
theorem dX4_rowAt_6 : decode cX4_rowAt 6 = .ok (.ifCond .eq 19, 3) := by decide +kernel
theorem dX4_rowAt_9 : decode cX4_rowAt 9 = .ok (.iload_n 2, 1) := by decide +kernel
theorem dX4_rowAt_10 : decode cX4_rowAt 10 = .ok (.i2l, 1) := by decide +kernel
theorem dX4_rowAt_11 : decode cX4_rowAt 11 = .ok (.lconst 0, 1) := by decide +kernel
theorem dX4_rowAt_12 : decode cX4_rowAt 12 = .ok (.ldc2_w 160, 3) := by decide +kernel
theorem dX4_rowAt_15 : decode cX4_rowAt 15 = .ok (.invokestatic 58, 3) := by decide +kernel
theorem dX4_rowAt_18 : decode cX4_rowAt 18 = .ok (.ifCond .eq 7, 3) := by decide +kernel
theorem dX4_rowAt_21 : decode cX4_rowAt 21 = .ok (.iconst 0, 1) := by decide +kernel
theorem dX4_rowAt_22 : decode cX4_rowAt 22 = .ok (.goto 4, 3) := by decide +kernel
theorem dX4_rowAt_25 : decode cX4_rowAt 25 = .ok (.iconst 1, 1) := by decide +kernel
theorem dX4_rowAt_26 : decode cX4_rowAt 26 = .ok (.putfield 51, 3) := by decide +kernel
theorem dX4_rowAt_29 : decode cX4_rowAt 29 = .ok (.aload_n 0, 1) := by decide +kernel
theorem dX4_rowAt_30 : decode cX4_rowAt 30 = .ok (.getfield 51, 3) := by decide +kernel
theorem dX4_rowAt_33 : decode cX4_rowAt 33 = .ok (.ifCond .le 5, 3) := by decide +kernel
theorem dX4_rowAt_36 : decode cX4_rowAt 36 = .ok (.iconst 0, 1) := by decide +kernel
theorem dX4_rowAt_37 : decode cX4_rowAt 37 = .ok (.ireturn, 1) := by decide +kernel
theorem dX4_rowAt_38 : decode cX4_rowAt 38 = .ok (.iload_n 2, 1) := by decide +kernel
theorem dX4_rowAt_39 : decode cX4_rowAt 39 = .ok (.ifCond .ne 12, 3) := by decide +kernel
theorem dX4_rowAt_42 : decode cX4_rowAt 42 = .ok (.aload_n 0, 1) := by decide +kernel
theorem dX4_rowAt_43 : decode cX4_rowAt 43 = .ok (.getfield 29, 3) := by decide +kernel
theorem dX4_rowAt_46 : decode cX4_rowAt 46 = .ok (.iload_n 1, 1) := by decide +kernel
theorem dX4_rowAt_47 : decode cX4_rowAt 47 = .ok (.iaload, 1) := by decide +kernel
theorem dX4_rowAt_48 : decode cX4_rowAt 48 = .ok (.goto 49, 3) := by decide +kernel
theorem dX4_rowAt_51 : decode cX4_rowAt 51 = .ok (.iload_n 2, 1) := by decide +kernel
theorem dX4_rowAt_52 : decode cX4_rowAt 52 = .ok (.iconst 4, 1) := by decide +kernel
theorem dX4_rowAt_53 : decode cX4_rowAt 53 = .ok (.if_icmp .ge 18, 3) := by decide +kernel
theorem dX4_rowAt_56 : decode cX4_rowAt 56 = .ok (.aload_n 0, 1) := by decide +kernel
theorem dX4_rowAt_57 : decode cX4_rowAt 57 = .ok (.getfield 32, 3) := by decide +kernel
theorem dX4_rowAt_60 : decode cX4_rowAt 60 = .ok (.iconst 3, 1) := by decide +kernel
theorem dX4_rowAt_61 : decode cX4_rowAt 61 = .ok (.iload_n 1, 1) := by decide +kernel
theorem dX4_rowAt_62 : decode cX4_rowAt 62 = .ok (.imul, 1) := by decide +kernel
theorem dX4_rowAt_63 : decode cX4_rowAt 63 = .ok (.iload_n 2, 1) := by decide +kernel
theorem dX4_rowAt_64 : decode cX4_rowAt 64 = .ok (.iadd, 1) := by decide +kernel
theorem dX4_rowAt_65 : decode cX4_rowAt 65 = .ok (.iconst 1, 1) := by decide +kernel
theorem dX4_rowAt_66 : decode cX4_rowAt 66 = .ok (.isub, 1) := by decide +kernel
theorem dX4_rowAt_67 : decode cX4_rowAt 67 = .ok (.iaload, 1) := by decide +kernel
theorem dX4_rowAt_68 : decode cX4_rowAt 68 = .ok (.goto 29, 3) := by decide +kernel
theorem dX4_rowAt_71 : decode cX4_rowAt 71 = .ok (.iload_n 2, 1) := by decide +kernel
theorem dX4_rowAt_72 : decode cX4_rowAt 72 = .ok (.iconst 4, 1) := by decide +kernel
theorem dX4_rowAt_73 : decode cX4_rowAt 73 = .ok (.if_icmp .ne 12, 3) := by decide +kernel
theorem dX4_rowAt_76 : decode cX4_rowAt 76 = .ok (.aload_n 0, 1) := by decide +kernel
theorem dX4_rowAt_77 : decode cX4_rowAt 77 = .ok (.getfield 35, 3) := by decide +kernel
theorem dX4_rowAt_80 : decode cX4_rowAt 80 = .ok (.iload_n 1, 1) := by decide +kernel
theorem dX4_rowAt_81 : decode cX4_rowAt 81 = .ok (.iaload, 1) := by decide +kernel
theorem dX4_rowAt_82 : decode cX4_rowAt 82 = .ok (.goto 15, 3) := by decide +kernel
theorem dX4_rowAt_85 : decode cX4_rowAt 85 = .ok (.aload_n 0, 1) := by decide +kernel
theorem dX4_rowAt_86 : decode cX4_rowAt 86 = .ok (.getfield 38, 3) := by decide +kernel
theorem dX4_rowAt_89 : decode cX4_rowAt 89 = .ok (.iconst 3, 1) := by decide +kernel
theorem dX4_rowAt_90 : decode cX4_rowAt 90 = .ok (.iload_n 1, 1) := by decide +kernel
theorem dX4_rowAt_91 : decode cX4_rowAt 91 = .ok (.imul, 1) := by decide +kernel
theorem dX4_rowAt_92 : decode cX4_rowAt 92 = .ok (.iload_n 2, 1) := by decide +kernel
theorem dX4_rowAt_93 : decode cX4_rowAt 93 = .ok (.iadd, 1) := by decide +kernel
theorem dX4_rowAt_94 : decode cX4_rowAt 94 = .ok (.iconst 5, 1) := by decide +kernel
theorem dX4_rowAt_95 : decode cX4_rowAt 95 = .ok (.isub, 1) := by decide +kernel
theorem dX4_rowAt_96 : decode cX4_rowAt 96 = .ok (.iaload, 1) := by decide +kernel
theorem dX4_rowAt_97 : decode cX4_rowAt 97 = .ok (.ireturn, 1) := by decide +kernel
theorem dX4_many_0 : decode cX4_many 0 = .ok (.iconst 0, 1) := by decide +kernel
theorem dX4_many_1 : decode cX4_many 1 = .ok (.istore_n 2, 1) := by decide +kernel
theorem dX4_many_2 : decode cX4_many 2 = .ok (.iconst 0, 1) := by decide +kernel
theorem dX4_many_3 : decode cX4_many 3 = .ok (.istore_n 3, 1) := by decide +kernel
theorem dX4_many_4 : decode cX4_many 4 = .ok (.iload_n 3, 1) := by decide +kernel
theorem dX4_many_5 : decode cX4_many 5 = .ok (.sipush 220, 3) := by decide +kernel
theorem dX4_many_8 : decode cX4_many 8 = .ok (.if_icmp .ge 32, 3) := by decide +kernel
theorem dX4_many_11 : decode cX4_many 11 = .ok (.iload_n 2, 1) := by decide +kernel
theorem dX4_many_12 : decode cX4_many 12 = .ok (.aload_n 0, 1) := by decide +kernel
theorem dX4_many_13 : decode cX4_many 13 = .ok (.getfield 22, 3) := by decide +kernel
theorem dX4_many_16 : decode cX4_many 16 = .ok (.sipush 220, 3) := by decide +kernel
theorem dX4_many_19 : decode cX4_many 19 = .ok (.iload_n 1, 1) := by decide +kernel
theorem dX4_many_20 : decode cX4_many 20 = .ok (.imul, 1) := by decide +kernel
theorem dX4_many_21 : decode cX4_many 21 = .ok (.iload_n 3, 1) := by decide +kernel
theorem dX4_many_22 : decode cX4_many 22 = .ok (.iadd, 1) := by decide +kernel
theorem dX4_many_23 : decode cX4_many 23 = .ok (.iaload, 1) := by decide +kernel
theorem dX4_many_24 : decode cX4_many 24 = .ok (.ifCond .eq 7, 3) := by decide +kernel
theorem dX4_many_27 : decode cX4_many 27 = .ok (.iconst 1, 1) := by decide +kernel
theorem dX4_many_28 : decode cX4_many 28 = .ok (.goto 4, 3) := by decide +kernel
theorem dX4_many_31 : decode cX4_many 31 = .ok (.iconst 0, 1) := by decide +kernel
theorem dX4_many_32 : decode cX4_many 32 = .ok (.iadd, 1) := by decide +kernel
theorem dX4_many_33 : decode cX4_many 33 = .ok (.istore_n 2, 1) := by decide +kernel
theorem dX4_many_34 : decode cX4_many 34 = .ok (.iinc 3 1, 3) := by decide +kernel
theorem dX4_many_37 : decode cX4_many 37 = .ok (.goto (-33), 3) := by decide +kernel
theorem dX4_many_40 : decode cX4_many 40 = .ok (.iload_n 2, 1) := by decide +kernel
theorem dX4_many_41 : decode cX4_many 41 = .ok (.ireturn, 1) := by decide +kernel
set_option maxRecDepth 20000 in
theorem ggX4_counted_X4_isRow : GoodIn wsX4_counted wsX4_isRow := goodIn_r _ [8, 9, 10, 11, 7, 12, 21, 22, 23, 24, 25, 26, 27, 28, 29, 30, 31, 32, 33, 34, 35, 36, 37] (by decide +kernel) (by decide +kernel)
set_option maxRecDepth 20000 in
theorem gX4_counted_X4_isRow : GoodIn wsX4_counted (wsV RX4 126 RX4 yX4_isRow wsX4_isRow) := goodIn_app (goodIn_of _ (by decide +kernel)) ggX4_counted_X4_isRow
set_option maxRecDepth 20000 in
theorem ggX4_counted_X4_treesIn : GoodIn wsX4_counted wsX4_treesIn := goodIn_r _ [15] (by decide +kernel) (by decide +kernel)
set_option maxRecDepth 20000 in
theorem gX4_counted_X4_treesIn : GoodIn wsX4_counted (va_wsS RX4 119 yX4_treesIn wsX4_treesIn) := goodIn_app (goodIn_of _ (by decide +kernel)) ggX4_counted_X4_treesIn
set_option maxRecDepth 20000 in
theorem ggX4_counted_X4_many : GoodIn wsX4_counted wsX4_many := goodIn_r _ [19, 20, 21, 22, 23, 24, 25, 26, 27, 28, 29, 30, 31, 32, 33, 34, 35, 36, 37] (by decide +kernel) (by decide +kernel)
set_option maxRecDepth 20000 in
theorem gX4_counted_X4_many : GoodIn wsX4_counted (wsV RX4 162 RX4 yX4_many wsX4_many) := goodIn_app (goodIn_of _ (by decide +kernel)) ggX4_counted_X4_many
theorem dX4_counted_0 : decode cX4_counted 0 = .ok (.aload_n 0, 1) := by decide +kernel
theorem dX4_counted_1 : decode cX4_counted 1 = .ok (.aload_n 0, 1) := by decide +kernel
theorem dX4_counted_2 : decode cX4_counted 2 = .ok (.iload_n 1, 1) := by decide +kernel
theorem dX4_counted_3 : decode cX4_counted 3 = .ok (.invokevirtual 126, 3) := by decide +kernel
theorem dX4_counted_6 : decode cX4_counted 6 = .ok (.ifCond .eq 7, 3) := by decide +kernel
theorem dX4_counted_9 : decode cX4_counted 9 = .ok (.iconst 0, 1) := by decide +kernel
theorem dX4_counted_10 : decode cX4_counted 10 = .ok (.goto 4, 3) := by decide +kernel
theorem dX4_counted_13 : decode cX4_counted 13 = .ok (.iconst 1, 1) := by decide +kernel
theorem dX4_counted_14 : decode cX4_counted 14 = .ok (.putfield 51, 3) := by decide +kernel
theorem dX4_counted_17 : decode cX4_counted 17 = .ok (.iconst 0, 1) := by decide +kernel
theorem dX4_counted_18 : decode cX4_counted 18 = .ok (.istore_n 2, 1) := by decide +kernel
theorem dX4_counted_19 : decode cX4_counted 19 = .ok (.iconst 0, 1) := by decide +kernel
theorem dX4_counted_20 : decode cX4_counted 20 = .ok (.istore_n 3, 1) := by decide +kernel
theorem dX4_counted_21 : decode cX4_counted 21 = .ok (.aload_n 0, 1) := by decide +kernel
theorem dX4_counted_22 : decode cX4_counted 22 = .ok (.getfield 51, 3) := by decide +kernel
theorem dX4_counted_25 : decode cX4_counted 25 = .ok (.ifCond .ne 39, 3) := by decide +kernel
theorem dX4_counted_28 : decode cX4_counted 28 = .ok (.iload_n 3, 1) := by decide +kernel
theorem dX4_counted_29 : decode cX4_counted 29 = .ok (.aload_n 0, 1) := by decide +kernel
theorem dX4_counted_30 : decode cX4_counted 30 = .ok (.getfield 29, 3) := by decide +kernel
theorem dX4_counted_33 : decode cX4_counted 33 = .ok (.iload_n 1, 1) := by decide +kernel
theorem dX4_counted_34 : decode cX4_counted 34 = .ok (.iaload, 1) := by decide +kernel
theorem dX4_counted_35 : decode cX4_counted 35 = .ok (.invokestatic 119, 3) := by decide +kernel
theorem dX4_counted_38 : decode cX4_counted 38 = .ok (.if_icmp .ge 26, 3) := by decide +kernel
theorem dX4_counted_41 : decode cX4_counted 41 = .ok (.iload_n 2, 1) := by decide +kernel
theorem dX4_counted_42 : decode cX4_counted 42 = .ok (.aload_n 0, 1) := by decide +kernel
theorem dX4_counted_43 : decode cX4_counted 43 = .ok (.aload_n 0, 1) := by decide +kernel
theorem dX4_counted_44 : decode cX4_counted 44 = .ok (.getfield 32, 3) := by decide +kernel
theorem dX4_counted_47 : decode cX4_counted 47 = .ok (.iconst 3, 1) := by decide +kernel
theorem dX4_counted_48 : decode cX4_counted 48 = .ok (.iload_n 1, 1) := by decide +kernel
theorem dX4_counted_49 : decode cX4_counted 49 = .ok (.imul, 1) := by decide +kernel
theorem dX4_counted_50 : decode cX4_counted 50 = .ok (.iload_n 3, 1) := by decide +kernel
theorem dX4_counted_51 : decode cX4_counted 51 = .ok (.iadd, 1) := by decide +kernel
theorem dX4_counted_52 : decode cX4_counted 52 = .ok (.iaload, 1) := by decide +kernel
theorem dX4_counted_53 : decode cX4_counted 53 = .ok (.invokevirtual 162, 3) := by decide +kernel
theorem dX4_counted_56 : decode cX4_counted 56 = .ok (.iadd, 1) := by decide +kernel
theorem dX4_counted_57 : decode cX4_counted 57 = .ok (.istore_n 2, 1) := by decide +kernel
theorem dX4_counted_58 : decode cX4_counted 58 = .ok (.iinc 3 1, 3) := by decide +kernel
theorem dX4_counted_61 : decode cX4_counted 61 = .ok (.goto (-40), 3) := by decide +kernel
theorem dX4_counted_64 : decode cX4_counted 64 = .ok (.iload_n 2, 1) := by decide +kernel
theorem dX4_counted_65 : decode cX4_counted 65 = .ok (.ireturn, 1) := by decide +kernel
set_option maxRecDepth 20000 in
theorem ggX4_terms_X4_isTree : GoodIn wsX4_terms wsX4_isTree := goodIn_r _ [7, 8, 9, 10, 6, 11, 17, 18, 19, 20, 21, 22, 23, 24, 25, 26, 27, 28, 29, 30, 31, 32, 33] (by decide +kernel) (by decide +kernel)
set_option maxRecDepth 20000 in
theorem gX4_terms_X4_isTree : GoodIn wsX4_terms (wsV RX4 86 RX4 yX4_isTree wsX4_isTree) := goodIn_app (goodIn_of _ (by decide +kernel)) ggX4_terms_X4_isTree
set_option maxRecDepth 20000 in
theorem ggX4_terms_X4_many : GoodIn wsX4_terms wsX4_many := goodIn_r _ [15, 16, 17, 18, 19, 20, 21, 22, 23, 24, 25, 26, 27, 28, 29, 30, 31, 32, 33] (by decide +kernel) (by decide +kernel)
set_option maxRecDepth 20000 in
theorem gX4_terms_X4_many : GoodIn wsX4_terms (wsV RX4 162 RX4 yX4_many wsX4_many) := goodIn_app (goodIn_of _ (by decide +kernel)) ggX4_terms_X4_many
theorem dX4_terms_0 : decode cX4_terms 0 = .ok (.aload_n 0, 1) := by decide +kernel
theorem dX4_terms_1 : decode cX4_terms 1 = .ok (.aload_n 0, 1) := by decide +kernel
theorem dX4_terms_2 : decode cX4_terms 2 = .ok (.iload_n 1, 1) := by decide +kernel
theorem dX4_terms_3 : decode cX4_terms 3 = .ok (.invokevirtual 86, 3) := by decide +kernel
theorem dX4_terms_6 : decode cX4_terms 6 = .ok (.ifCond .eq 7, 3) := by decide +kernel
theorem dX4_terms_9 : decode cX4_terms 9 = .ok (.iconst 0, 1) := by decide +kernel
theorem dX4_terms_10 : decode cX4_terms 10 = .ok (.goto 4, 3) := by decide +kernel
theorem dX4_terms_13 : decode cX4_terms 13 = .ok (.iconst 1, 1) := by decide +kernel
theorem dX4_terms_14 : decode cX4_terms 14 = .ok (.putfield 51, 3) := by decide +kernel
theorem dX4_terms_17 : decode cX4_terms 17 = .ok (.aload_n 0, 1) := by decide +kernel
theorem dX4_terms_18 : decode cX4_terms 18 = .ok (.getfield 51, 3) := by decide +kernel
theorem dX4_terms_21 : decode cX4_terms 21 = .ok (.ifCond .le 7, 3) := by decide +kernel
theorem dX4_terms_24 : decode cX4_terms 24 = .ok (.iconst 0, 1) := by decide +kernel
theorem dX4_terms_25 : decode cX4_terms 25 = .ok (.goto 21, 3) := by decide +kernel
theorem dX4_terms_28 : decode cX4_terms 28 = .ok (.aload_n 0, 1) := by decide +kernel
theorem dX4_terms_29 : decode cX4_terms 29 = .ok (.getfield 25, 3) := by decide +kernel
theorem dX4_terms_32 : decode cX4_terms 32 = .ok (.iload_n 1, 1) := by decide +kernel
theorem dX4_terms_33 : decode cX4_terms 33 = .ok (.baload, 1) := by decide +kernel
theorem dX4_terms_34 : decode cX4_terms 34 = .ok (.ifCond .eq 7, 3) := by decide +kernel
theorem dX4_terms_37 : decode cX4_terms 37 = .ok (.iconst (-1), 1) := by decide +kernel
theorem dX4_terms_38 : decode cX4_terms 38 = .ok (.goto 8, 3) := by decide +kernel
theorem dX4_terms_41 : decode cX4_terms 41 = .ok (.aload_n 0, 1) := by decide +kernel
theorem dX4_terms_42 : decode cX4_terms 42 = .ok (.iload_n 1, 1) := by decide +kernel
theorem dX4_terms_43 : decode cX4_terms 43 = .ok (.invokevirtual 162, 3) := by decide +kernel
theorem dX4_terms_46 : decode cX4_terms 46 = .ok (.ireturn, 1) := by decide +kernel
set_option maxRecDepth 20000 in
theorem ggX4_term_X4_isTree : GoodIn wsX4_term wsX4_isTree := goodIn_r _ [9, 10, 11, 12, 8, 13, 23, 24, 25, 26, 27, 28, 29, 30, 31, 32, 33, 34, 35, 36, 37, 38, 39] (by decide +kernel) (by decide +kernel)
set_option maxRecDepth 20000 in
theorem gX4_term_X4_isTree : GoodIn wsX4_term (wsV RX4 86 RX4 yX4_isTree wsX4_isTree) := goodIn_app (goodIn_of _ (by decide +kernel)) ggX4_term_X4_isTree
set_option maxRecDepth 20000 in
theorem ggX4_term_X4_in : GoodIn wsX4_term wsX4_in := goodIn_r _ [13] (by decide +kernel) (by decide +kernel)
set_option maxRecDepth 20000 in
theorem gX4_term_X4_in : GoodIn wsX4_term (va_wsS RX4 58 yX4_in wsX4_in) := goodIn_app (goodIn_of _ (by decide +kernel)) ggX4_term_X4_in
set_option maxRecDepth 20000 in
theorem ggX4_term_X4_place : GoodIn wsX4_term wsX4_place := goodIn_r _ [16, 17, 18, 8, 19, 20, 21, 22] (by decide +kernel) (by decide +kernel)
set_option maxRecDepth 20000 in
theorem gX4_term_X4_place : GoodIn wsX4_term (va_wsS RX4 99 yX4_place wsX4_place) := goodIn_app (goodIn_of _ (by decide +kernel)) ggX4_term_X4_place
theorem dX4_term_0 : decode cX4_term 0 = .ok (.aload_n 0, 1) := by decide +kernel
theorem dX4_term_1 : decode cX4_term 1 = .ok (.aload_n 0, 1) := by decide +kernel
theorem dX4_term_2 : decode cX4_term 2 = .ok (.iload_n 1, 1) := by decide +kernel
theorem dX4_term_3 : decode cX4_term 3 = .ok (.invokevirtual 86, 3) := by decide +kernel
theorem dX4_term_6 : decode cX4_term 6 = .ok (.ifCond .ne 7, 3) := by decide +kernel
theorem dX4_term_9 : decode cX4_term 9 = .ok (.iconst 1, 1) := by decide +kernel
theorem dX4_term_10 : decode cX4_term 10 = .ok (.goto 17, 3) := by decide +kernel
theorem dX4_term_13 : decode cX4_term 13 = .ok (.aload_n 0, 1) := by decide +kernel
theorem dX4_term_14 : decode cX4_term 14 = .ok (.getfield 25, 3) := by decide +kernel
theorem dX4_term_17 : decode cX4_term 17 = .ok (.iload_n 1, 1) := by decide +kernel
theorem dX4_term_18 : decode cX4_term 18 = .ok (.baload, 1) := by decide +kernel
theorem dX4_term_19 : decode cX4_term 19 = .ok (.ifCond .eq 7, 3) := by decide +kernel
theorem dX4_term_22 : decode cX4_term 22 = .ok (.iconst 2, 1) := by decide +kernel
theorem dX4_term_23 : decode cX4_term 23 = .ok (.goto 4, 3) := by decide +kernel
theorem dX4_term_26 : decode cX4_term 26 = .ok (.iconst 0, 1) := by decide +kernel
theorem dX4_term_27 : decode cX4_term 27 = .ok (.putfield 51, 3) := by decide +kernel
theorem dX4_term_30 : decode cX4_term 30 = .ok (.aload_n 0, 1) := by decide +kernel
theorem dX4_term_31 : decode cX4_term 31 = .ok (.getfield 51, 3) := by decide +kernel
theorem dX4_term_34 : decode cX4_term 34 = .ok (.ifCond .gt 51, 3) := by decide +kernel
theorem dX4_term_37 : decode cX4_term 37 = .ok (.iload_n 2, 1) := by decide +kernel
theorem dX4_term_38 : decode cX4_term 38 = .ok (.i2l, 1) := by decide +kernel
theorem dX4_term_39 : decode cX4_term 39 = .ok (.lconst 0, 1) := by decide +kernel
theorem dX4_term_40 : decode cX4_term 40 = .ok (.ldc2_w 165, 3) := by decide +kernel
theorem dX4_term_43 : decode cX4_term 43 = .ok (.invokestatic 58, 3) := by decide +kernel
theorem dX4_term_46 : decode cX4_term 46 = .ok (.ifCond .eq 39, 3) := by decide +kernel
theorem dX4_term_49 : decode cX4_term 49 = .ok (.iload_n 3, 1) := by decide +kernel
theorem dX4_term_50 : decode cX4_term 50 = .ok (.i2l, 1) := by decide +kernel
theorem dX4_term_51 : decode cX4_term 51 = .ok (.lconst 0, 1) := by decide +kernel
theorem dX4_term_52 : decode cX4_term 52 = .ok (.ldc2_w 165, 3) := by decide +kernel
theorem dX4_term_55 : decode cX4_term 55 = .ok (.invokestatic 58, 3) := by decide +kernel
theorem dX4_term_58 : decode cX4_term 58 = .ok (.ifCond .eq 27, 3) := by decide +kernel
theorem dX4_term_61 : decode cX4_term 61 = .ok (.iload 4, 2) := by decide +kernel
theorem dX4_term_63 : decode cX4_term 63 = .ok (.i2l, 1) := by decide +kernel
theorem dX4_term_64 : decode cX4_term 64 = .ok (.lconst 0, 1) := by decide +kernel
theorem dX4_term_65 : decode cX4_term 65 = .ok (.ldc2_w 165, 3) := by decide +kernel
theorem dX4_term_68 : decode cX4_term 68 = .ok (.invokestatic 58, 3) := by decide +kernel
theorem dX4_term_71 : decode cX4_term 71 = .ok (.ifCond .eq 14, 3) := by decide +kernel
theorem dX4_term_74 : decode cX4_term 74 = .ok (.iload_n 2, 1) := by decide +kernel
theorem dX4_term_75 : decode cX4_term 75 = .ok (.iload_n 3, 1) := by decide +kernel
theorem dX4_term_76 : decode cX4_term 76 = .ok (.iadd, 1) := by decide +kernel
theorem dX4_term_77 : decode cX4_term 77 = .ok (.iload 4, 2) := by decide +kernel
