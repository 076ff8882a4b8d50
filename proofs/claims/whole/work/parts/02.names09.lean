theorem dX4_term_79 : decode cX4_term 79 = .ok (.iadd, 1) := by decide +kernel
theorem dX4_term_80 : decode cX4_term 80 = .ok (.bipush 9, 2) := by decide +kernel
theorem dX4_term_82 : decode cX4_term 82 = .ok (.if_icmp .le 5, 3) := by decide +kernel
theorem dX4_term_85 : decode cX4_term 85 = .ok (.iconst 0, 1) := by decide +kernel
theorem dX4_term_86 : decode cX4_term 86 = .ok (.ireturn, 1) := by decide +kernel
theorem dX4_term_87 : decode cX4_term 87 = .ok (.aload_n 0, 1) := by decide +kernel
theorem dX4_term_88 : decode cX4_term 88 = .ok (.getfield 22, 3) := by decide +kernel
theorem dX4_term_91 : decode cX4_term 91 = .ok (.sipush 220, 3) := by decide +kernel
theorem dX4_term_94 : decode cX4_term 94 = .ok (.iload_n 1, 1) := by decide +kernel
theorem dX4_term_95 : decode cX4_term 95 = .ok (.imul, 1) := by decide +kernel
theorem dX4_term_96 : decode cX4_term 96 = .ok (.iload_n 2, 1) := by decide +kernel
theorem dX4_term_97 : decode cX4_term 97 = .ok (.iload_n 3, 1) := by decide +kernel
theorem dX4_term_98 : decode cX4_term 98 = .ok (.iload 4, 2) := by decide +kernel
theorem dX4_term_100 : decode cX4_term 100 = .ok (.invokestatic 99, 3) := by decide +kernel
theorem dX4_term_103 : decode cX4_term 103 = .ok (.iadd, 1) := by decide +kernel
theorem dX4_term_104 : decode cX4_term 104 = .ok (.iaload, 1) := by decide +kernel
theorem dX4_term_105 : decode cX4_term 105 = .ok (.ireturn, 1) := by decide +kernel
set_option maxRecDepth 20000 in
theorem ggX4_deep_X4_isTree : GoodIn wsX4_deep wsX4_isTree := goodIn_r _ [7, 8, 9, 10, 6, 11, 12, 13, 14, 15, 16, 17, 18, 19, 20, 21, 22, 23, 24, 25, 26, 27, 28] (by decide +kernel) (by decide +kernel)
set_option maxRecDepth 20000 in
theorem gX4_deep_X4_isTree : GoodIn wsX4_deep (wsV RX4 86 RX4 yX4_isTree wsX4_isTree) := goodIn_app (goodIn_of _ (by decide +kernel)) ggX4_deep_X4_isTree
theorem dX4_deep_0 : decode cX4_deep 0 = .ok (.aload_n 0, 1) := by decide +kernel
theorem dX4_deep_1 : decode cX4_deep 1 = .ok (.aload_n 0, 1) := by decide +kernel
theorem dX4_deep_2 : decode cX4_deep 2 = .ok (.iload_n 1, 1) := by decide +kernel
theorem dX4_deep_3 : decode cX4_deep 3 = .ok (.invokevirtual 86, 3) := by decide +kernel
theorem dX4_deep_6 : decode cX4_deep 6 = .ok (.ifCond .eq 7, 3) := by decide +kernel
theorem dX4_deep_9 : decode cX4_deep 9 = .ok (.iconst 0, 1) := by decide +kernel
theorem dX4_deep_10 : decode cX4_deep 10 = .ok (.goto 4, 3) := by decide +kernel
theorem dX4_deep_13 : decode cX4_deep 13 = .ok (.iconst 1, 1) := by decide +kernel
theorem dX4_deep_14 : decode cX4_deep 14 = .ok (.putfield 51, 3) := by decide +kernel
theorem dX4_deep_17 : decode cX4_deep 17 = .ok (.aload_n 0, 1) := by decide +kernel
theorem dX4_deep_18 : decode cX4_deep 18 = .ok (.getfield 51, 3) := by decide +kernel
theorem dX4_deep_21 : decode cX4_deep 21 = .ok (.ifCond .le 7, 3) := by decide +kernel
theorem dX4_deep_24 : decode cX4_deep 24 = .ok (.iconst 0, 1) := by decide +kernel
theorem dX4_deep_25 : decode cX4_deep 25 = .ok (.goto 9, 3) := by decide +kernel
theorem dX4_deep_28 : decode cX4_deep 28 = .ok (.aload_n 0, 1) := by decide +kernel
theorem dX4_deep_29 : decode cX4_deep 29 = .ok (.getfield 19, 3) := by decide +kernel
theorem dX4_deep_32 : decode cX4_deep 32 = .ok (.iload_n 1, 1) := by decide +kernel
theorem dX4_deep_33 : decode cX4_deep 33 = .ok (.iaload, 1) := by decide +kernel
theorem dX4_deep_34 : decode cX4_deep 34 = .ok (.ireturn, 1) := by decide +kernel
set_option maxRecDepth 20000 in
theorem ggX4_alike_X4_isTree : GoodIn wsX4_alike wsX4_isTree := goodIn_r _ [10, 11, 12, 13, 9, 14, 15, 16, 17, 18, 19, 20, 21, 22, 23, 24, 25, 26, 27, 28, 29, 30, 31] (by decide +kernel) (by decide +kernel)
set_option maxRecDepth 20000 in
theorem gX4_alike_X4_isTree : GoodIn wsX4_alike (wsV RX4 86 RX4 yX4_isTree wsX4_isTree) := goodIn_app (goodIn_of _ (by decide +kernel)) ggX4_alike_X4_isTree
theorem dX4_alike_0 : decode cX4_alike 0 = .ok (.aload_n 0, 1) := by decide +kernel
theorem dX4_alike_1 : decode cX4_alike 1 = .ok (.aload_n 0, 1) := by decide +kernel
theorem dX4_alike_2 : decode cX4_alike 2 = .ok (.iload_n 1, 1) := by decide +kernel
theorem dX4_alike_3 : decode cX4_alike 3 = .ok (.invokevirtual 86, 3) := by decide +kernel
theorem dX4_alike_6 : decode cX4_alike 6 = .ok (.ifCond .eq 15, 3) := by decide +kernel
theorem dX4_alike_9 : decode cX4_alike 9 = .ok (.aload_n 0, 1) := by decide +kernel
theorem dX4_alike_10 : decode cX4_alike 10 = .ok (.iload_n 2, 1) := by decide +kernel
theorem dX4_alike_11 : decode cX4_alike 11 = .ok (.invokevirtual 86, 3) := by decide +kernel
theorem dX4_alike_14 : decode cX4_alike 14 = .ok (.ifCond .eq 7, 3) := by decide +kernel
theorem dX4_alike_17 : decode cX4_alike 17 = .ok (.iconst 0, 1) := by decide +kernel
theorem dX4_alike_18 : decode cX4_alike 18 = .ok (.goto 4, 3) := by decide +kernel
theorem dX4_alike_21 : decode cX4_alike 21 = .ok (.iconst 1, 1) := by decide +kernel
theorem dX4_alike_22 : decode cX4_alike 22 = .ok (.putfield 51, 3) := by decide +kernel
theorem dX4_alike_25 : decode cX4_alike 25 = .ok (.aload_n 0, 1) := by decide +kernel
theorem dX4_alike_26 : decode cX4_alike 26 = .ok (.getfield 51, 3) := by decide +kernel
theorem dX4_alike_29 : decode cX4_alike 29 = .ok (.ifCond .le 5, 3) := by decide +kernel
theorem dX4_alike_32 : decode cX4_alike 32 = .ok (.iconst 0, 1) := by decide +kernel
theorem dX4_alike_33 : decode cX4_alike 33 = .ok (.ireturn, 1) := by decide +kernel
theorem dX4_alike_34 : decode cX4_alike 34 = .ok (.iconst 0, 1) := by decide +kernel
theorem dX4_alike_35 : decode cX4_alike 35 = .ok (.istore_n 3, 1) := by decide +kernel
theorem dX4_alike_36 : decode cX4_alike 36 = .ok (.iload_n 3, 1) := by decide +kernel
theorem dX4_alike_37 : decode cX4_alike 37 = .ok (.sipush 14400, 3) := by decide +kernel
theorem dX4_alike_40 : decode cX4_alike 40 = .ok (.if_icmp .ge 16, 3) := by decide +kernel
theorem dX4_alike_43 : decode cX4_alike 43 = .ok (.aload_n 0, 1) := by decide +kernel
theorem dX4_alike_44 : decode cX4_alike 44 = .ok (.getfield 48, 3) := by decide +kernel
theorem dX4_alike_47 : decode cX4_alike 47 = .ok (.iload_n 3, 1) := by decide +kernel
theorem dX4_alike_48 : decode cX4_alike 48 = .ok (.iconst 0, 1) := by decide +kernel
theorem dX4_alike_49 : decode cX4_alike 49 = .ok (.bastore, 1) := by decide +kernel
theorem dX4_alike_50 : decode cX4_alike 50 = .ok (.iinc 3 1, 3) := by decide +kernel
theorem dX4_alike_53 : decode cX4_alike 53 = .ok (.goto (-17), 3) := by decide +kernel
theorem dX4_alike_56 : decode cX4_alike 56 = .ok (.aload_n 0, 1) := by decide +kernel
theorem dX4_alike_57 : decode cX4_alike 57 = .ok (.getfield 48, 3) := by decide +kernel
theorem dX4_alike_60 : decode cX4_alike 60 = .ok (.bipush 120, 2) := by decide +kernel
theorem dX4_alike_62 : decode cX4_alike 62 = .ok (.iload_n 1, 1) := by decide +kernel
theorem dX4_alike_63 : decode cX4_alike 63 = .ok (.imul, 1) := by decide +kernel
theorem dX4_alike_64 : decode cX4_alike 64 = .ok (.iload_n 2, 1) := by decide +kernel
theorem dX4_alike_65 : decode cX4_alike 65 = .ok (.iadd, 1) := by decide +kernel
theorem dX4_alike_66 : decode cX4_alike 66 = .ok (.iconst 1, 1) := by decide +kernel
theorem dX4_alike_67 : decode cX4_alike 67 = .ok (.bastore, 1) := by decide +kernel
theorem dX4_alike_68 : decode cX4_alike 68 = .ok (.iload_n 1, 1) := by decide +kernel
theorem dX4_alike_69 : decode cX4_alike 69 = .ok (.istore_n 3, 1) := by decide +kernel
theorem dX4_alike_70 : decode cX4_alike 70 = .ok (.iload_n 3, 1) := by decide +kernel
theorem dX4_alike_71 : decode cX4_alike 71 = .ok (.ifCond .lt 157, 3) := by decide +kernel
theorem dX4_alike_74 : decode cX4_alike 74 = .ok (.iload_n 2, 1) := by decide +kernel
theorem dX4_alike_75 : decode cX4_alike 75 = .ok (.istore 4, 2) := by decide +kernel
theorem dX4_alike_77 : decode cX4_alike 77 = .ok (.iload 4, 2) := by decide +kernel
theorem dX4_alike_79 : decode cX4_alike 79 = .ok (.ifCond .lt 143, 3) := by decide +kernel
theorem dX4_alike_82 : decode cX4_alike 82 = .ok (.aload_n 0, 1) := by decide +kernel
theorem dX4_alike_83 : decode cX4_alike 83 = .ok (.getfield 48, 3) := by decide +kernel
theorem dX4_alike_86 : decode cX4_alike 86 = .ok (.bipush 120, 2) := by decide +kernel
theorem dX4_alike_88 : decode cX4_alike 88 = .ok (.iload_n 3, 1) := by decide +kernel
theorem dX4_alike_89 : decode cX4_alike 89 = .ok (.imul, 1) := by decide +kernel
theorem dX4_alike_90 : decode cX4_alike 90 = .ok (.iload 4, 2) := by decide +kernel
theorem dX4_alike_92 : decode cX4_alike 92 = .ok (.iadd, 1) := by decide +kernel
theorem dX4_alike_93 : decode cX4_alike 93 = .ok (.baload, 1) := by decide +kernel
theorem dX4_alike_94 : decode cX4_alike 94 = .ok (.ifCond .eq 122, 3) := by decide +kernel
theorem dX4_alike_97 : decode cX4_alike 97 = .ok (.iload_n 3, 1) := by decide +kernel
theorem dX4_alike_98 : decode cX4_alike 98 = .ok (.iload 4, 2) := by decide +kernel
theorem dX4_alike_100 : decode cX4_alike 100 = .ok (.if_icmp .ne 6, 3) := by decide +kernel
theorem dX4_alike_103 : decode cX4_alike 103 = .ok (.goto 113, 3) := by decide +kernel
theorem dX4_alike_106 : decode cX4_alike 106 = .ok (.aload_n 0, 1) := by decide +kernel
theorem dX4_alike_107 : decode cX4_alike 107 = .ok (.getfield 7, 3) := by decide +kernel
theorem dX4_alike_110 : decode cX4_alike 110 = .ok (.iload_n 3, 1) := by decide +kernel
theorem dX4_alike_111 : decode cX4_alike 111 = .ok (.iaload, 1) := by decide +kernel
theorem dX4_alike_112 : decode cX4_alike 112 = .ok (.aload_n 0, 1) := by decide +kernel
theorem dX4_alike_113 : decode cX4_alike 113 = .ok (.getfield 7, 3) := by decide +kernel
theorem dX4_alike_116 : decode cX4_alike 116 = .ok (.iload 4, 2) := by decide +kernel
theorem dX4_alike_118 : decode cX4_alike 118 = .ok (.iaload, 1) := by decide +kernel
theorem dX4_alike_119 : decode cX4_alike 119 = .ok (.if_icmp .ne 28, 3) := by decide +kernel
theorem dX4_alike_122 : decode cX4_alike 122 = .ok (.aload_n 0, 1) := by decide +kernel
theorem dX4_alike_123 : decode cX4_alike 123 = .ok (.getfield 7, 3) := by decide +kernel
theorem dX4_alike_126 : decode cX4_alike 126 = .ok (.iload_n 3, 1) := by decide +kernel
theorem dX4_alike_127 : decode cX4_alike 127 = .ok (.iaload, 1) := by decide +kernel
theorem dX4_alike_128 : decode cX4_alike 128 = .ok (.ifCond .ge 21, 3) := by decide +kernel
theorem dX4_alike_131 : decode cX4_alike 131 = .ok (.aload_n 0, 1) := by decide +kernel
theorem dX4_alike_132 : decode cX4_alike 132 = .ok (.getfield 13, 3) := by decide +kernel
theorem dX4_alike_135 : decode cX4_alike 135 = .ok (.iload_n 3, 1) := by decide +kernel
theorem dX4_alike_136 : decode cX4_alike 136 = .ok (.iaload, 1) := by decide +kernel
theorem dX4_alike_137 : decode cX4_alike 137 = .ok (.aload_n 0, 1) := by decide +kernel
theorem dX4_alike_138 : decode cX4_alike 138 = .ok (.getfield 13, 3) := by decide +kernel
theorem dX4_alike_141 : decode cX4_alike 141 = .ok (.iload 4, 2) := by decide +kernel
theorem dX4_alike_143 : decode cX4_alike 143 = .ok (.iaload, 1) := by decide +kernel
theorem dX4_alike_144 : decode cX4_alike 144 = .ok (.if_icmp .eq 5, 3) := by decide +kernel
theorem dX4_alike_147 : decode cX4_alike 147 = .ok (.iconst 0, 1) := by decide +kernel
theorem dX4_alike_148 : decode cX4_alike 148 = .ok (.ireturn, 1) := by decide +kernel
theorem dX4_alike_149 : decode cX4_alike 149 = .ok (.aload_n 0, 1) := by decide +kernel
theorem dX4_alike_150 : decode cX4_alike 150 = .ok (.getfield 7, 3) := by decide +kernel
theorem dX4_alike_153 : decode cX4_alike 153 = .ok (.iload_n 3, 1) := by decide +kernel
theorem dX4_alike_154 : decode cX4_alike 154 = .ok (.iaload, 1) := by decide +kernel
theorem dX4_alike_155 : decode cX4_alike 155 = .ok (.ifCond .ge 6, 3) := by decide +kernel
theorem dX4_alike_158 : decode cX4_alike 158 = .ok (.goto 58, 3) := by decide +kernel
theorem dX4_alike_161 : decode cX4_alike 161 = .ok (.aload_n 0, 1) := by decide +kernel
theorem dX4_alike_162 : decode cX4_alike 162 = .ok (.getfield 48, 3) := by decide +kernel
theorem dX4_alike_165 : decode cX4_alike 165 = .ok (.bipush 120, 2) := by decide +kernel
theorem dX4_alike_167 : decode cX4_alike 167 = .ok (.aload_n 0, 1) := by decide +kernel
theorem dX4_alike_168 : decode cX4_alike 168 = .ok (.getfield 13, 3) := by decide +kernel
theorem dX4_alike_171 : decode cX4_alike 171 = .ok (.iload_n 3, 1) := by decide +kernel
theorem dX4_alike_172 : decode cX4_alike 172 = .ok (.iaload, 1) := by decide +kernel
theorem dX4_alike_173 : decode cX4_alike 173 = .ok (.imul, 1) := by decide +kernel
theorem dX4_alike_174 : decode cX4_alike 174 = .ok (.aload_n 0, 1) := by decide +kernel
theorem dX4_alike_175 : decode cX4_alike 175 = .ok (.getfield 13, 3) := by decide +kernel
theorem dX4_alike_178 : decode cX4_alike 178 = .ok (.iload 4, 2) := by decide +kernel
theorem dX4_alike_180 : decode cX4_alike 180 = .ok (.iaload, 1) := by decide +kernel
theorem dX4_alike_181 : decode cX4_alike 181 = .ok (.iadd, 1) := by decide +kernel
theorem dX4_alike_182 : decode cX4_alike 182 = .ok (.iconst 1, 1) := by decide +kernel
theorem dX4_alike_183 : decode cX4_alike 183 = .ok (.bastore, 1) := by decide +kernel
theorem dX4_alike_184 : decode cX4_alike 184 = .ok (.aload_n 0, 1) := by decide +kernel
theorem dX4_alike_185 : decode cX4_alike 185 = .ok (.getfield 16, 3) := by decide +kernel
theorem dX4_alike_188 : decode cX4_alike 188 = .ok (.iload_n 3, 1) := by decide +kernel
theorem dX4_alike_189 : decode cX4_alike 189 = .ok (.iaload, 1) := by decide +kernel
theorem dX4_alike_190 : decode cX4_alike 190 = .ok (.ifCond .lt 26, 3) := by decide +kernel
theorem dX4_alike_193 : decode cX4_alike 193 = .ok (.aload_n 0, 1) := by decide +kernel
theorem dX4_alike_194 : decode cX4_alike 194 = .ok (.getfield 48, 3) := by decide +kernel
theorem dX4_alike_197 : decode cX4_alike 197 = .ok (.bipush 120, 2) := by decide +kernel
theorem dX4_alike_199 : decode cX4_alike 199 = .ok (.aload_n 0, 1) := by decide +kernel
theorem dX4_alike_200 : decode cX4_alike 200 = .ok (.getfield 16, 3) := by decide +kernel
theorem dX4_alike_203 : decode cX4_alike 203 = .ok (.iload_n 3, 1) := by decide +kernel
theorem dX4_alike_204 : decode cX4_alike 204 = .ok (.iaload, 1) := by decide +kernel
theorem dX4_alike_205 : decode cX4_alike 205 = .ok (.imul, 1) := by decide +kernel
theorem dX4_alike_206 : decode cX4_alike 206 = .ok (.aload_n 0, 1) := by decide +kernel
theorem dX4_alike_207 : decode cX4_alike 207 = .ok (.getfield 16, 3) := by decide +kernel
theorem dX4_alike_210 : decode cX4_alike 210 = .ok (.iload 4, 2) := by decide +kernel
theorem dX4_alike_212 : decode cX4_alike 212 = .ok (.iaload, 1) := by decide +kernel
theorem dX4_alike_213 : decode cX4_alike 213 = .ok (.iadd, 1) := by decide +kernel
theorem dX4_alike_214 : decode cX4_alike 214 = .ok (.iconst 1, 1) := by decide +kernel
theorem dX4_alike_215 : decode cX4_alike 215 = .ok (.bastore, 1) := by decide +kernel
theorem dX4_alike_216 : decode cX4_alike 216 = .ok (.iinc 4 (-1), 3) := by decide +kernel
theorem dX4_alike_219 : decode cX4_alike 219 = .ok (.goto (-142), 3) := by decide +kernel
theorem dX4_alike_222 : decode cX4_alike 222 = .ok (.iinc 3 (-1), 3) := by decide +kernel
theorem dX4_alike_225 : decode cX4_alike 225 = .ok (.goto (-155), 3) := by decide +kernel
theorem dX4_alike_228 : decode cX4_alike 228 = .ok (.iconst 1, 1) := by decide +kernel
theorem dX4_alike_229 : decode cX4_alike 229 = .ok (.ireturn, 1) := by decide +kernel
theorem dX4_count_0 : decode cX4_count 0 = .ok (.aload_n 0, 1) := by decide +kernel
theorem dX4_count_1 : decode cX4_count 1 = .ok (.iconst 0, 1) := by decide +kernel
theorem dX4_count_2 : decode cX4_count 2 = .ok (.putfield 51, 3) := by decide +kernel
theorem dX4_count_5 : decode cX4_count 5 = .ok (.iload_n 1, 1) := by decide +kernel
theorem dX4_count_6 : decode cX4_count 6 = .ok (.ifCond .ne 10, 3) := by decide +kernel
theorem dX4_count_9 : decode cX4_count 9 = .ok (.aload_n 0, 1) := by decide +kernel
theorem dX4_count_10 : decode cX4_count 10 = .ok (.getfield 55, 3) := by decide +kernel
theorem dX4_count_13 : decode cX4_count 13 = .ok (.goto 26, 3) := by decide +kernel
theorem dX4_count_16 : decode cX4_count 16 = .ok (.iload_n 1, 1) := by decide +kernel
theorem dX4_count_17 : decode cX4_count 17 = .ok (.iconst 1, 1) := by decide +kernel
theorem dX4_count_18 : decode cX4_count 18 = .ok (.if_icmp .ne 10, 3) := by decide +kernel
theorem dX4_count_21 : decode cX4_count 21 = .ok (.aload_n 0, 1) := by decide +kernel
theorem dX4_count_22 : decode cX4_count 22 = .ok (.getfield 62, 3) := by decide +kernel
theorem dX4_count_25 : decode cX4_count 25 = .ok (.goto 14, 3) := by decide +kernel
theorem dX4_count_28 : decode cX4_count 28 = .ok (.iload_n 1, 1) := by decide +kernel
theorem dX4_count_29 : decode cX4_count 29 = .ok (.iconst 2, 1) := by decide +kernel
theorem dX4_count_30 : decode cX4_count 30 = .ok (.if_icmp .ne 8, 3) := by decide +kernel
theorem dX4_count_33 : decode cX4_count 33 = .ok (.bipush 7, 2) := by decide +kernel
theorem dX4_count_35 : decode cX4_count 35 = .ok (.goto 4, 3) := by decide +kernel
theorem dX4_count_38 : decode cX4_count 38 = .ok (.iconst (-1), 1) := by decide +kernel
theorem dX4_count_39 : decode cX4_count 39 = .ok (.ireturn, 1) := by decide +kernel
theorem dX4_clear_0 : decode cX4_clear 0 = .ok (.aload_n 0, 1) := by decide +kernel
theorem dX4_clear_1 : decode cX4_clear 1 = .ok (.iconst 0, 1) := by decide +kernel
theorem dX4_clear_2 : decode cX4_clear 2 = .ok (.putfield 51, 3) := by decide +kernel
theorem dX4_clear_5 : decode cX4_clear 5 = .ok (.aload_n 0, 1) := by decide +kernel
theorem dX4_clear_6 : decode cX4_clear 6 = .ok (.iconst 0, 1) := by decide +kernel
theorem dX4_clear_7 : decode cX4_clear 7 = .ok (.putfield 55, 3) := by decide +kernel
theorem dX4_clear_10 : decode cX4_clear 10 = .ok (.aload_n 0, 1) := by decide +kernel
theorem dX4_clear_11 : decode cX4_clear 11 = .ok (.iconst 0, 1) := by decide +kernel
theorem dX4_clear_12 : decode cX4_clear 12 = .ok (.putfield 62, 3) := by decide +kernel
theorem dX4_clear_15 : decode cX4_clear 15 = .ok (.return_, 1) := by decide +kernel
theorem dJx00060_init_a7421_0 : decode cJx00060_init_a7421 0 = .ok (.aload_n 0, 1) := by decide +kernel
theorem dJx00060_init_a7421_1 : decode cJx00060_init_a7421 1 = .ok (.aload_n 1, 1) := by decide +kernel
theorem dJx00060_init_a7421_2 : decode cJx00060_init_a7421 2 = .ok (.invokespecial 7, 3) := by decide +kernel
theorem dJx00060_init_a7421_5 : decode cJx00060_init_a7421 5 = .ok (.return_, 1) := by decide +kernel
theorem dJ9_max_7cf53_0 : decode cJ9_max_7cf53 0 = .ok (.iload_n 0, 1) := by decide +kernel
theorem dJ9_max_7cf53_1 : decode cJ9_max_7cf53 1 = .ok (.iload_n 1, 1) := by decide +kernel
theorem dJ9_max_7cf53_2 : decode cJ9_max_7cf53 2 = .ok (.if_icmp .lt 7, 3) := by decide +kernel
theorem dJ9_max_7cf53_5 : decode cJ9_max_7cf53 5 = .ok (.iload_n 0, 1) := by decide +kernel
theorem dJ9_max_7cf53_6 : decode cJ9_max_7cf53 6 = .ok (.goto 4, 3) := by decide +kernel
theorem dJ9_max_7cf53_9 : decode cJ9_max_7cf53 9 = .ok (.iload_n 1, 1) := by decide +kernel
theorem dJ9_max_7cf53_10 : decode cJ9_max_7cf53 10 = .ok (.ireturn, 1) := by decide +kernel
set_option maxRecDepth 20000 in
theorem ggL_leaf_X3_leaf : GoodIn wsL_leaf wsX3_leaf := goodIn_ca (goodIn_ca (goodIn_r _ [7, 8, 9, 10, 11, 6, 12, 13, 14, 15, 16, 17, 18, 19, 20, 21, 22, 23, 24, 25, 26, 27, 28, 29, 30, 31, 32, 33, 34, 35, 36, 37, 38, 39, 40, 41, 42, 43, 44, 45, 46, 47, 48, 49, 50, 51, 52, 53, 54, 55, 56, 57, 58, 59, 60, 61, 62, 63, 64, 65, 66, 67, 68, 69, 70, 71, 72, 73, 74, 75, 76, 77, 78, 79, 80, 81, 82, 83, 84, 85, 86, 87, 88, 89, 90, 91, 92, 93, 94] (by decide +kernel) (by decide +kernel)) (goodIn_sub (fun _ h => List.mem_cons_of_mem _ (List.mem_append_left _ (List.mem_append_right _ h))) (by decide +kernel))) (goodIn_sub (fun _ h => List.mem_cons_of_mem _ (List.mem_append_right _ h)) (by decide +kernel))
set_option maxRecDepth 20000 in
theorem gL_leaf_X3_leaf : GoodIn wsL_leaf (wsV RL 7 RX3 yX3_leaf wsX3_leaf) := goodIn_app (goodIn_of _ (by decide +kernel)) ggL_leaf_X3_leaf
theorem dL_leaf_0 : decode cL_leaf 0 = .ok (.aload_n 2, 1) := by decide +kernel
theorem dL_leaf_1 : decode cL_leaf 1 = .ok (.iconst 0, 1) := by decide +kernel
theorem dL_leaf_2 : decode cL_leaf 2 = .ok (.aload_n 0, 1) := by decide +kernel
theorem dL_leaf_3 : decode cL_leaf 3 = .ok (.iload_n 1, 1) := by decide +kernel
theorem dL_leaf_4 : decode cL_leaf 4 = .ok (.invokevirtual 7, 3) := by decide +kernel
theorem dL_leaf_7 : decode cL_leaf 7 = .ok (.i2l, 1) := by decide +kernel
theorem dL_leaf_8 : decode cL_leaf 8 = .ok (.lastore, 1) := by decide +kernel
theorem dL_leaf_9 : decode cL_leaf 9 = .ok (.goto 9, 3) := by decide +kernel
theorem dL_leaf_12 : decode cL_leaf 12 = .ok (.astore_n 3, 1) := by decide +kernel
theorem dL_leaf_13 : decode cL_leaf 13 = .ok (.iconst 1, 1) := by decide +kernel
theorem dL_leaf_14 : decode cL_leaf 14 = .ok (.ireturn, 1) := by decide +kernel
theorem dL_leaf_15 : decode cL_leaf 15 = .ok (.astore_n 3, 1) := by decide +kernel
theorem dL_leaf_16 : decode cL_leaf 16 = .ok (.iconst 2, 1) := by decide +kernel
theorem dL_leaf_17 : decode cL_leaf 17 = .ok (.ireturn, 1) := by decide +kernel
theorem dL_leaf_18 : decode cL_leaf 18 = .ok (.iconst 0, 1) := by decide +kernel
theorem dL_leaf_19 : decode cL_leaf 19 = .ok (.ireturn, 1) := by decide +kernel
set_option maxRecDepth 20000 in
theorem ggL_number_X3_number : GoodIn wsL_number wsX3_number := goodIn_ca (goodIn_ca (goodIn_r _ [7, 8, 9, 10, 11, 12, 13, 14, 6, 15, 16, 17, 18, 19, 20, 21, 22, 23, 24, 25, 26, 27, 28, 29, 30, 31, 32, 33, 34, 35, 36, 37, 38, 39, 40, 41, 42, 43, 44, 45, 46, 47, 48, 49, 50, 51, 52, 53, 54, 55, 56, 57, 58, 59, 60, 61, 62, 63, 64, 65, 66, 67, 68, 69, 70, 71, 72, 73, 74, 75, 76, 77, 78, 79, 80, 81, 82, 83, 84, 85, 86, 87, 88, 89, 90] (by decide +kernel) (by decide +kernel)) (goodIn_sub (fun _ h => List.mem_cons_of_mem _ (List.mem_append_left _ (List.mem_append_right _ h))) (by decide +kernel))) (goodIn_sub (fun _ h => List.mem_cons_of_mem _ (List.mem_append_right _ h)) (by decide +kernel))
set_option maxRecDepth 20000 in
theorem gL_number_X3_number : GoodIn wsL_number (wsV RL 17 RX3 yX3_number wsX3_number) := goodIn_app (goodIn_of _ (by decide +kernel)) ggL_number_X3_number
theorem dL_number_0 : decode cL_number 0 = .ok (.aload_n 2, 1) := by decide +kernel
theorem dL_number_1 : decode cL_number 1 = .ok (.iconst 0, 1) := by decide +kernel
theorem dL_number_2 : decode cL_number 2 = .ok (.aload_n 0, 1) := by decide +kernel
theorem dL_number_3 : decode cL_number 3 = .ok (.iload_n 1, 1) := by decide +kernel
theorem dL_number_4 : decode cL_number 4 = .ok (.invokevirtual 17, 3) := by decide +kernel
theorem dL_number_7 : decode cL_number 7 = .ok (.i2l, 1) := by decide +kernel
theorem dL_number_8 : decode cL_number 8 = .ok (.lastore, 1) := by decide +kernel
theorem dL_number_9 : decode cL_number 9 = .ok (.goto 9, 3) := by decide +kernel
theorem dL_number_12 : decode cL_number 12 = .ok (.astore_n 3, 1) := by decide +kernel
theorem dL_number_13 : decode cL_number 13 = .ok (.iconst 1, 1) := by decide +kernel
theorem dL_number_14 : decode cL_number 14 = .ok (.ireturn, 1) := by decide +kernel
theorem dL_number_15 : decode cL_number 15 = .ok (.astore_n 3, 1) := by decide +kernel
theorem dL_number_16 : decode cL_number 16 = .ok (.iconst 2, 1) := by decide +kernel
theorem dL_number_17 : decode cL_number 17 = .ok (.ireturn, 1) := by decide +kernel
theorem dL_number_18 : decode cL_number 18 = .ok (.iconst 0, 1) := by decide +kernel
theorem dL_number_19 : decode cL_number 19 = .ok (.ireturn, 1) := by decide +kernel
set_option maxRecDepth 20000 in
theorem ggL_node_X3_node : GoodIn wsL_node wsX3_node := goodIn_ca (goodIn_ca (goodIn_r _ [8, 9, 10, 11, 12, 13, 14, 15, 16, 17, 18, 19, 20, 7, 21, 22, 23, 24, 25, 26, 27, 28, 29, 30, 31, 32, 33, 34, 35, 36, 37, 38, 39, 40, 41, 42, 43, 44, 45, 46, 47, 48, 49, 50, 51, 52, 53, 54, 55, 56, 57, 58, 59, 60, 61, 62, 63, 64, 65, 66, 67, 68, 69, 70, 71, 72, 73, 74, 75, 76, 77, 78, 79, 80, 81, 82, 83, 84, 85, 86, 87, 88, 89, 90, 91, 92, 93, 94, 95, 96, 97, 98, 99, 100, 101, 102, 103, 104, 105, 106, 107, 108, 109, 110, 111, 112, 113, 114, 115, 116, 117, 118, 119, 120, 121, 122, 123, 124, 125, 126, 127, 128, 129, 130, 131, 132, 133, 134] (by decide +kernel) (by decide +kernel)) (goodIn_sub (fun _ h => List.mem_cons_of_mem _ (List.mem_append_left _ (List.mem_append_right _ h))) (by decide +kernel))) (goodIn_sub (fun _ h => List.mem_cons_of_mem _ (List.mem_append_right _ h)) (by decide +kernel))
set_option maxRecDepth 20000 in
theorem gL_node_X3_node : GoodIn wsL_node (wsV RL 20 RX3 yX3_node wsX3_node) := goodIn_app (goodIn_of _ (by decide +kernel)) ggL_node_X3_node
theorem dL_node_0 : decode cL_node 0 = .ok (.aload 4, 2) := by decide +kernel
theorem dL_node_2 : decode cL_node 2 = .ok (.iconst 0, 1) := by decide +kernel
theorem dL_node_3 : decode cL_node 3 = .ok (.aload_n 0, 1) := by decide +kernel
theorem dL_node_4 : decode cL_node 4 = .ok (.iload_n 1, 1) := by decide +kernel
theorem dL_node_5 : decode cL_node 5 = .ok (.iload_n 2, 1) := by decide +kernel
theorem dL_node_6 : decode cL_node 6 = .ok (.iload_n 3, 1) := by decide +kernel
theorem dL_node_7 : decode cL_node 7 = .ok (.invokevirtual 20, 3) := by decide +kernel
theorem dL_node_10 : decode cL_node 10 = .ok (.i2l, 1) := by decide +kernel
theorem dL_node_11 : decode cL_node 11 = .ok (.lastore, 1) := by decide +kernel
theorem dL_node_12 : decode cL_node 12 = .ok (.goto 15, 3) := by decide +kernel
theorem dL_node_15 : decode cL_node 15 = .ok (.astore 5, 2) := by decide +kernel
theorem dL_node_17 : decode cL_node 17 = .ok (.iconst 1, 1) := by decide +kernel
theorem dL_node_18 : decode cL_node 18 = .ok (.ireturn, 1) := by decide +kernel
theorem dL_node_19 : decode cL_node 19 = .ok (.astore 5, 2) := by decide +kernel
theorem dL_node_21 : decode cL_node 21 = .ok (.iconst 2, 1) := by decide +kernel
theorem dL_node_22 : decode cL_node 22 = .ok (.ireturn, 1) := by decide +kernel
theorem dL_node_23 : decode cL_node 23 = .ok (.astore 5, 2) := by decide +kernel
theorem dL_node_25 : decode cL_node 25 = .ok (.iconst 3, 1) := by decide +kernel
theorem dL_node_26 : decode cL_node 26 = .ok (.ireturn, 1) := by decide +kernel
theorem dL_node_27 : decode cL_node 27 = .ok (.iconst 0, 1) := by decide +kernel
theorem dL_node_28 : decode cL_node 28 = .ok (.ireturn, 1) := by decide +kernel
set_option maxRecDepth 20000 in
theorem ggL_load_X3_load : GoodIn wsL_load wsX3_load := goodIn_ca (goodIn_ca (goodIn_r _ [8, 9, 10, 11, 12, 13, 14, 15, 16, 17, 18, 19, 7, 20, 21, 22, 23, 24, 25, 26, 27, 28, 29, 30, 31, 32, 33, 34, 35, 36, 37, 38, 39, 40, 41, 42, 43, 44, 45, 46, 47, 48, 49, 50, 51] (by decide +kernel) (by decide +kernel)) (goodIn_sub (fun _ h => List.mem_cons_of_mem _ (List.mem_append_left _ (List.mem_append_right _ h))) (by decide +kernel))) (goodIn_sub (fun _ h => List.mem_cons_of_mem _ (List.mem_append_right _ h)) (by decide +kernel))
set_option maxRecDepth 20000 in
theorem gL_load_X3_load : GoodIn wsL_load (wsV RL 26 RX3 yX3_load wsX3_load) := goodIn_app (goodIn_of _ (by decide +kernel)) ggL_load_X3_load
theorem dL_load_0 : decode cL_load 0 = .ok (.aload 5, 2) := by decide +kernel
theorem dL_load_2 : decode cL_load 2 = .ok (.iconst 0, 1) := by decide +kernel
theorem dL_load_3 : decode cL_load 3 = .ok (.aload_n 0, 1) := by decide +kernel
theorem dL_load_4 : decode cL_load 4 = .ok (.iload_n 1, 1) := by decide +kernel
theorem dL_load_5 : decode cL_load 5 = .ok (.iload_n 2, 1) := by decide +kernel
theorem dL_load_6 : decode cL_load 6 = .ok (.iload_n 3, 1) := by decide +kernel
theorem dL_load_7 : decode cL_load 7 = .ok (.iload 4, 2) := by decide +kernel
theorem dL_load_9 : decode cL_load 9 = .ok (.invokevirtual 26, 3) := by decide +kernel
theorem dL_load_12 : decode cL_load 12 = .ok (.i2l, 1) := by decide +kernel
theorem dL_load_13 : decode cL_load 13 = .ok (.lastore, 1) := by decide +kernel
theorem dL_load_14 : decode cL_load 14 = .ok (.goto 15, 3) := by decide +kernel
theorem dL_load_17 : decode cL_load 17 = .ok (.astore 6, 2) := by decide +kernel
theorem dL_load_19 : decode cL_load 19 = .ok (.iconst 1, 1) := by decide +kernel
theorem dL_load_20 : decode cL_load 20 = .ok (.ireturn, 1) := by decide +kernel
theorem dL_load_21 : decode cL_load 21 = .ok (.astore 6, 2) := by decide +kernel
theorem dL_load_23 : decode cL_load 23 = .ok (.iconst 2, 1) := by decide +kernel
theorem dL_load_24 : decode cL_load 24 = .ok (.ireturn, 1) := by decide +kernel
theorem dL_load_25 : decode cL_load 25 = .ok (.astore 6, 2) := by decide +kernel
theorem dL_load_27 : decode cL_load 27 = .ok (.iconst 3, 1) := by decide +kernel
theorem dL_load_28 : decode cL_load 28 = .ok (.ireturn, 1) := by decide +kernel
theorem dL_load_29 : decode cL_load 29 = .ok (.iconst 0, 1) := by decide +kernel
theorem dL_load_30 : decode cL_load 30 = .ok (.ireturn, 1) := by decide +kernel
set_option maxRecDepth 20000 in
theorem ggL_cofactor_X3_cofactor : GoodIn wsL_cofactor wsX3_cofactor := goodIn_ca (goodIn_r _ [7, 8, 9, 10, 11, 12, 13, 14, 15, 16, 6, 17, 18, 19, 20, 21, 22, 23, 24, 25, 26, 27, 28, 29, 30, 31, 32, 33, 34, 35, 36] (by decide +kernel) (by decide +kernel)) (goodIn_sub (fun _ h => List.mem_cons_of_mem _ (List.mem_append_right _ h)) (by decide +kernel))
set_option maxRecDepth 20000 in
theorem gL_cofactor_X3_cofactor : GoodIn wsL_cofactor (wsV RL 30 RX3 yX3_cofactor wsX3_cofactor) := goodIn_app (goodIn_of _ (by decide +kernel)) ggL_cofactor_X3_cofactor
theorem dL_cofactor_0 : decode cL_cofactor 0 = .ok (.aload_n 0, 1) := by decide +kernel
theorem dL_cofactor_1 : decode cL_cofactor 1 = .ok (.iload_n 1, 1) := by decide +kernel
theorem dL_cofactor_2 : decode cL_cofactor 2 = .ok (.iload_n 2, 1) := by decide +kernel
theorem dL_cofactor_3 : decode cL_cofactor 3 = .ok (.invokevirtual 30, 3) := by decide +kernel
theorem dL_cofactor_6 : decode cL_cofactor 6 = .ok (.goto 9, 3) := by decide +kernel
theorem dL_cofactor_9 : decode cL_cofactor 9 = .ok (.astore_n 3, 1) := by decide +kernel
theorem dL_cofactor_10 : decode cL_cofactor 10 = .ok (.iconst 1, 1) := by decide +kernel
theorem dL_cofactor_11 : decode cL_cofactor 11 = .ok (.ireturn, 1) := by decide +kernel
theorem dL_cofactor_12 : decode cL_cofactor 12 = .ok (.astore_n 3, 1) := by decide +kernel
theorem dL_cofactor_13 : decode cL_cofactor 13 = .ok (.iconst 2, 1) := by decide +kernel
theorem dL_cofactor_14 : decode cL_cofactor 14 = .ok (.ireturn, 1) := by decide +kernel
theorem dL_cofactor_15 : decode cL_cofactor 15 = .ok (.iconst 0, 1) := by decide +kernel
theorem dL_cofactor_16 : decode cL_cofactor 16 = .ok (.ireturn, 1) := by decide +kernel
set_option maxRecDepth 20000 in
theorem ggL_sample_X3_sample : GoodIn wsL_sample wsX3_sample := goodIn_ca (goodIn_r _ [7, 8, 9, 10, 11, 12, 13, 14, 15, 16, 6, 17, 18, 19, 20, 21, 22, 23, 24, 25, 26, 27, 28, 29, 30, 31, 32, 33, 34, 35, 36] (by decide +kernel) (by decide +kernel)) (goodIn_sub (fun _ h => List.mem_cons_of_mem _ (List.mem_append_right _ h)) (by decide +kernel))
set_option maxRecDepth 20000 in
theorem gL_sample_X3_sample : GoodIn wsL_sample (wsV RL 34 RX3 yX3_sample wsX3_sample) := goodIn_app (goodIn_of _ (by decide +kernel)) ggL_sample_X3_sample
theorem dL_sample_0 : decode cL_sample 0 = .ok (.aload_n 0, 1) := by decide +kernel
theorem dL_sample_1 : decode cL_sample 1 = .ok (.iload_n 1, 1) := by decide +kernel
theorem dL_sample_2 : decode cL_sample 2 = .ok (.iload_n 2, 1) := by decide +kernel
theorem dL_sample_3 : decode cL_sample 3 = .ok (.iload_n 3, 1) := by decide +kernel
theorem dL_sample_4 : decode cL_sample 4 = .ok (.invokevirtual 34, 3) := by decide +kernel
theorem dL_sample_7 : decode cL_sample 7 = .ok (.goto 11, 3) := by decide +kernel
theorem dL_sample_10 : decode cL_sample 10 = .ok (.astore 4, 2) := by decide +kernel
theorem dL_sample_12 : decode cL_sample 12 = .ok (.iconst 1, 1) := by decide +kernel
theorem dL_sample_13 : decode cL_sample 13 = .ok (.ireturn, 1) := by decide +kernel
theorem dL_sample_14 : decode cL_sample 14 = .ok (.astore 4, 2) := by decide +kernel
theorem dL_sample_16 : decode cL_sample 16 = .ok (.iconst 2, 1) := by decide +kernel
theorem dL_sample_17 : decode cL_sample 17 = .ok (.ireturn, 1) := by decide +kernel
theorem dL_sample_18 : decode cL_sample 18 = .ok (.iconst 0, 1) := by decide +kernel
theorem dL_sample_19 : decode cL_sample 19 = .ok (.ireturn, 1) := by decide +kernel
set_option maxRecDepth 20000 in
theorem ggL_check_X3_check : GoodIn wsL_check wsX3_check := goodIn_r _ [5, 6, 7, 8, 9, 10, 11, 12, 13, 4, 14, 15, 16, 17, 18, 19, 20, 21, 22, 23, 24, 25, 26, 27, 28, 29, 30, 31, 32, 33, 34, 35, 36, 37, 38, 39, 40, 41, 42, 43, 44, 45, 46, 47, 48, 49, 50, 51, 52, 53, 54, 55, 56, 57, 58, 59, 60, 61, 62, 63, 64, 65, 66, 67, 68, 69, 70, 71, 72, 73, 74, 75, 76, 77, 78, 79, 80, 81, 82, 83, 84, 85, 86, 87, 88, 89, 90, 91, 92, 93, 94, 95, 96, 97, 98, 99, 100, 101, 102, 103, 104, 105, 106, 107, 108, 109, 110, 111, 112, 113, 114, 115, 116, 117, 118, 119, 120, 121, 122] (by decide +kernel) (by decide +kernel)
set_option maxRecDepth 20000 in
theorem gL_check_X3_check : GoodIn wsL_check (wsV RL 38 RX3 yX3_check wsX3_check) := goodIn_app (goodIn_of _ (by decide +kernel)) ggL_check_X3_check
theorem dL_check_0 : decode cL_check 0 = .ok (.aload_n 3, 1) := by decide +kernel
theorem dL_check_1 : decode cL_check 1 = .ok (.iconst 0, 1) := by decide +kernel
theorem dL_check_2 : decode cL_check 2 = .ok (.aload_n 0, 1) := by decide +kernel
theorem dL_check_3 : decode cL_check 3 = .ok (.iload_n 1, 1) := by decide +kernel
theorem dL_check_4 : decode cL_check 4 = .ok (.iload_n 2, 1) := by decide +kernel
theorem dL_check_5 : decode cL_check 5 = .ok (.invokevirtual 38, 3) := by decide +kernel
theorem dL_check_8 : decode cL_check 8 = .ok (.i2l, 1) := by decide +kernel
theorem dL_check_9 : decode cL_check 9 = .ok (.lastore, 1) := by decide +kernel
theorem dL_check_10 : decode cL_check 10 = .ok (.goto 7, 3) := by decide +kernel
theorem dL_check_13 : decode cL_check 13 = .ok (.astore 4, 2) := by decide +kernel
theorem dL_check_15 : decode cL_check 15 = .ok (.iconst 1, 1) := by decide +kernel
theorem dL_check_16 : decode cL_check 16 = .ok (.ireturn, 1) := by decide +kernel
theorem dL_check_17 : decode cL_check 17 = .ok (.iconst 0, 1) := by decide +kernel
theorem dL_check_18 : decode cL_check 18 = .ok (.ireturn, 1) := by decide +kernel
set_option maxRecDepth 20000 in
theorem ggL_rowAt_X3_rowAt : GoodIn wsL_rowAt wsX3_rowAt := goodIn_r _ [5, 6, 7, 8, 9, 10, 11, 12, 4, 13, 14, 15, 16, 17, 18, 19, 20, 21, 22, 23, 24, 25, 26] (by decide +kernel) (by decide +kernel)
set_option maxRecDepth 20000 in
theorem gL_rowAt_X3_rowAt : GoodIn wsL_rowAt (wsV RL 42 RX3 yX3_rowAt wsX3_rowAt) := goodIn_app (goodIn_of _ (by decide +kernel)) ggL_rowAt_X3_rowAt
theorem dL_rowAt_0 : decode cL_rowAt 0 = .ok (.aload_n 3, 1) := by decide +kernel
theorem dL_rowAt_1 : decode cL_rowAt 1 = .ok (.iconst 0, 1) := by decide +kernel
theorem dL_rowAt_2 : decode cL_rowAt 2 = .ok (.aload_n 0, 1) := by decide +kernel
theorem dL_rowAt_3 : decode cL_rowAt 3 = .ok (.iload_n 1, 1) := by decide +kernel
theorem dL_rowAt_4 : decode cL_rowAt 4 = .ok (.iload_n 2, 1) := by decide +kernel
theorem dL_rowAt_5 : decode cL_rowAt 5 = .ok (.invokevirtual 42, 3) := by decide +kernel
theorem dL_rowAt_8 : decode cL_rowAt 8 = .ok (.i2l, 1) := by decide +kernel
theorem dL_rowAt_9 : decode cL_rowAt 9 = .ok (.lastore, 1) := by decide +kernel
theorem dL_rowAt_10 : decode cL_rowAt 10 = .ok (.goto 7, 3) := by decide +kernel
theorem dL_rowAt_13 : decode cL_rowAt 13 = .ok (.astore 4, 2) := by decide +kernel
theorem dL_rowAt_15 : decode cL_rowAt 15 = .ok (.iconst 1, 1) := by decide +kernel
theorem dL_rowAt_16 : decode cL_rowAt 16 = .ok (.ireturn, 1) := by decide +kernel
theorem dL_rowAt_17 : decode cL_rowAt 17 = .ok (.iconst 0, 1) := by decide +kernel
theorem dL_rowAt_18 : decode cL_rowAt 18 = .ok (.ireturn, 1) := by decide +kernel
set_option maxRecDepth 20000 in
theorem ggL_counted_X3_counted : GoodIn wsL_counted wsX3_counted := goodIn_r _ [5, 6, 7, 8, 9, 10, 11, 12, 4, 13, 14, 15, 16, 17, 18, 19, 20, 21, 22, 23, 24, 25, 26, 27, 28, 29, 30, 31, 32, 33, 34, 35, 36, 37, 38, 39, 40, 41, 42, 43, 44, 45, 46, 47, 48, 49, 50, 51, 52, 53, 54, 55, 56, 57] (by decide +kernel) (by decide +kernel)
set_option maxRecDepth 20000 in
theorem gL_counted_X3_counted : GoodIn wsL_counted (wsV RL 45 RX3 yX3_counted wsX3_counted) := goodIn_app (goodIn_of _ (by decide +kernel)) ggL_counted_X3_counted
theorem dL_counted_0 : decode cL_counted 0 = .ok (.aload_n 2, 1) := by decide +kernel
theorem dL_counted_1 : decode cL_counted 1 = .ok (.iconst 0, 1) := by decide +kernel
theorem dL_counted_2 : decode cL_counted 2 = .ok (.aload_n 0, 1) := by decide +kernel
theorem dL_counted_3 : decode cL_counted 3 = .ok (.iload_n 1, 1) := by decide +kernel
theorem dL_counted_4 : decode cL_counted 4 = .ok (.invokevirtual 45, 3) := by decide +kernel
theorem dL_counted_7 : decode cL_counted 7 = .ok (.i2l, 1) := by decide +kernel
theorem dL_counted_8 : decode cL_counted 8 = .ok (.lastore, 1) := by decide +kernel
theorem dL_counted_9 : decode cL_counted 9 = .ok (.goto 6, 3) := by decide +kernel
theorem dL_counted_12 : decode cL_counted 12 = .ok (.astore_n 3, 1) := by decide +kernel
theorem dL_counted_13 : decode cL_counted 13 = .ok (.iconst 1, 1) := by decide +kernel
theorem dL_counted_14 : decode cL_counted 14 = .ok (.ireturn, 1) := by decide +kernel
theorem dL_counted_15 : decode cL_counted 15 = .ok (.iconst 0, 1) := by decide +kernel
theorem dL_counted_16 : decode cL_counted 16 = .ok (.ireturn, 1) := by decide +kernel
set_option maxRecDepth 20000 in
theorem ggL_terms_X3_terms : GoodIn wsL_terms wsX3_terms := goodIn_r _ [5, 6, 7, 8, 4, 9, 10, 11, 12, 13, 14, 15, 16, 17, 18, 19, 20, 21, 22, 23, 24, 25, 26, 27, 28, 29, 30, 31, 32, 33, 34, 35, 36, 37, 38, 39, 40, 41, 42, 43, 44, 45, 46] (by decide +kernel) (by decide +kernel)
set_option maxRecDepth 20000 in
theorem gL_terms_X3_terms : GoodIn wsL_terms (wsV RL 48 RX3 yX3_terms wsX3_terms) := goodIn_app (goodIn_of _ (by decide +kernel)) ggL_terms_X3_terms
theorem dL_terms_0 : decode cL_terms 0 = .ok (.aload_n 2, 1) := by decide +kernel
theorem dL_terms_1 : decode cL_terms 1 = .ok (.iconst 0, 1) := by decide +kernel
theorem dL_terms_2 : decode cL_terms 2 = .ok (.aload_n 0, 1) := by decide +kernel
theorem dL_terms_3 : decode cL_terms 3 = .ok (.iload_n 1, 1) := by decide +kernel
theorem dL_terms_4 : decode cL_terms 4 = .ok (.invokevirtual 48, 3) := by decide +kernel
theorem dL_terms_7 : decode cL_terms 7 = .ok (.i2l, 1) := by decide +kernel
theorem dL_terms_8 : decode cL_terms 8 = .ok (.lastore, 1) := by decide +kernel
theorem dL_terms_9 : decode cL_terms 9 = .ok (.goto 6, 3) := by decide +kernel
theorem dL_terms_12 : decode cL_terms 12 = .ok (.astore_n 3, 1) := by decide +kernel
theorem dL_terms_13 : decode cL_terms 13 = .ok (.iconst 1, 1) := by decide +kernel
theorem dL_terms_14 : decode cL_terms 14 = .ok (.ireturn, 1) := by decide +kernel
theorem dL_terms_15 : decode cL_terms 15 = .ok (.iconst 0, 1) := by decide +kernel
theorem dL_terms_16 : decode cL_terms 16 = .ok (.ireturn, 1) := by decide +kernel
set_option maxRecDepth 20000 in
theorem ggL_term_X3_term : GoodIn wsL_term wsX3_term := goodIn_ca (goodIn_r _ [7, 8, 9, 10, 11, 12, 6, 13, 14, 15, 16, 17, 18, 19, 20, 21, 22, 23, 24, 25, 26, 27, 28, 29, 30, 31, 32, 33, 34, 35, 36, 37, 38, 39, 40, 41, 42, 43, 44, 45, 46, 47, 48, 49, 50, 51, 52, 53, 54, 55, 56, 57, 58, 59] (by decide +kernel) (by decide +kernel)) (goodIn_sub (fun _ h => List.mem_cons_of_mem _ (List.mem_append_right _ h)) (by decide +kernel))
set_option maxRecDepth 20000 in
theorem gL_term_X3_term : GoodIn wsL_term (wsV RL 51 RX3 yX3_term wsX3_term) := goodIn_app (goodIn_of _ (by decide +kernel)) ggL_term_X3_term
theorem dL_term_0 : decode cL_term 0 = .ok (.aload 5, 2) := by decide +kernel
theorem dL_term_2 : decode cL_term 2 = .ok (.iconst 0, 1) := by decide +kernel
theorem dL_term_3 : decode cL_term 3 = .ok (.aload_n 0, 1) := by decide +kernel
theorem dL_term_4 : decode cL_term 4 = .ok (.iload_n 1, 1) := by decide +kernel
theorem dL_term_5 : decode cL_term 5 = .ok (.iload_n 2, 1) := by decide +kernel
theorem dL_term_6 : decode cL_term 6 = .ok (.iload_n 3, 1) := by decide +kernel
theorem dL_term_7 : decode cL_term 7 = .ok (.iload 4, 2) := by decide +kernel
theorem dL_term_9 : decode cL_term 9 = .ok (.invokevirtual 51, 3) := by decide +kernel
theorem dL_term_12 : decode cL_term 12 = .ok (.i2l, 1) := by decide +kernel
theorem dL_term_13 : decode cL_term 13 = .ok (.lastore, 1) := by decide +kernel
theorem dL_term_14 : decode cL_term 14 = .ok (.goto 11, 3) := by decide +kernel
theorem dL_term_17 : decode cL_term 17 = .ok (.astore 6, 2) := by decide +kernel
theorem dL_term_19 : decode cL_term 19 = .ok (.iconst 1, 1) := by decide +kernel
theorem dL_term_20 : decode cL_term 20 = .ok (.ireturn, 1) := by decide +kernel
theorem dL_term_21 : decode cL_term 21 = .ok (.astore 6, 2) := by decide +kernel
theorem dL_term_23 : decode cL_term 23 = .ok (.iconst 2, 1) := by decide +kernel
theorem dL_term_24 : decode cL_term 24 = .ok (.ireturn, 1) := by decide +kernel
theorem dL_term_25 : decode cL_term 25 = .ok (.iconst 0, 1) := by decide +kernel
theorem dL_term_26 : decode cL_term 26 = .ok (.ireturn, 1) := by decide +kernel
set_option maxRecDepth 20000 in
theorem ggL_deep_X3_deep : GoodIn wsL_deep wsX3_deep := goodIn_r _ [5, 6, 7, 8, 4, 9, 10, 11, 12, 13, 14, 15, 16, 17, 18, 19, 20, 21, 22, 23, 24, 25, 26, 27, 28, 29, 30, 31, 32, 33, 34, 35, 36] (by decide +kernel) (by decide +kernel)
set_option maxRecDepth 20000 in
theorem gL_deep_X3_deep : GoodIn wsL_deep (wsV RL 54 RX3 yX3_deep wsX3_deep) := goodIn_app (goodIn_of _ (by decide +kernel)) ggL_deep_X3_deep
theorem dL_deep_0 : decode cL_deep 0 = .ok (.aload_n 2, 1) := by decide +kernel
theorem dL_deep_1 : decode cL_deep 1 = .ok (.iconst 0, 1) := by decide +kernel
theorem dL_deep_2 : decode cL_deep 2 = .ok (.aload_n 0, 1) := by decide +kernel
theorem dL_deep_3 : decode cL_deep 3 = .ok (.iload_n 1, 1) := by decide +kernel
theorem dL_deep_4 : decode cL_deep 4 = .ok (.invokevirtual 54, 3) := by decide +kernel
theorem dL_deep_7 : decode cL_deep 7 = .ok (.i2l, 1) := by decide +kernel
theorem dL_deep_8 : decode cL_deep 8 = .ok (.lastore, 1) := by decide +kernel
theorem dL_deep_9 : decode cL_deep 9 = .ok (.goto 6, 3) := by decide +kernel
theorem dL_deep_12 : decode cL_deep 12 = .ok (.astore_n 3, 1) := by decide +kernel
theorem dL_deep_13 : decode cL_deep 13 = .ok (.iconst 1, 1) := by decide +kernel
theorem dL_deep_14 : decode cL_deep 14 = .ok (.ireturn, 1) := by decide +kernel
theorem dL_deep_15 : decode cL_deep 15 = .ok (.iconst 0, 1) := by decide +kernel
theorem dL_deep_16 : decode cL_deep 16 = .ok (.ireturn, 1) := by decide +kernel
set_option maxRecDepth 20000 in
theorem ggL_alike_X3_alike : GoodIn wsL_alike wsX3_alike := goodIn_r _ [5, 6, 7, 8, 4, 9, 10, 11, 12, 13, 14, 15, 16, 17, 18, 19, 20, 21, 22, 23, 24, 25, 26, 27, 28, 29, 30, 31, 32, 33, 34, 35, 36] (by decide +kernel) (by decide +kernel)
set_option maxRecDepth 20000 in
theorem gL_alike_X3_alike : GoodIn wsL_alike (wsV RL 57 RX3 yX3_alike wsX3_alike) := goodIn_app (goodIn_of _ (by decide +kernel)) ggL_alike_X3_alike
theorem dL_alike_0 : decode cL_alike 0 = .ok (.aload_n 3, 1) := by decide +kernel
theorem dL_alike_1 : decode cL_alike 1 = .ok (.iconst 0, 1) := by decide +kernel
theorem dL_alike_2 : decode cL_alike 2 = .ok (.aload_n 0, 1) := by decide +kernel
theorem dL_alike_3 : decode cL_alike 3 = .ok (.iload_n 1, 1) := by decide +kernel
theorem dL_alike_4 : decode cL_alike 4 = .ok (.iload_n 2, 1) := by decide +kernel
theorem dL_alike_5 : decode cL_alike 5 = .ok (.invokevirtual 57, 3) := by decide +kernel
theorem dL_alike_8 : decode cL_alike 8 = .ok (.ifCond .eq 7, 3) := by decide +kernel
theorem dL_alike_11 : decode cL_alike 11 = .ok (.lconst 1, 1) := by decide +kernel
theorem dL_alike_12 : decode cL_alike 12 = .ok (.goto 4, 3) := by decide +kernel
theorem dL_alike_15 : decode cL_alike 15 = .ok (.lconst 0, 1) := by decide +kernel
theorem dL_alike_16 : decode cL_alike 16 = .ok (.lastore, 1) := by decide +kernel
theorem dL_alike_17 : decode cL_alike 17 = .ok (.goto 7, 3) := by decide +kernel
theorem dL_alike_20 : decode cL_alike 20 = .ok (.astore 4, 2) := by decide +kernel
theorem dL_alike_22 : decode cL_alike 22 = .ok (.iconst 1, 1) := by decide +kernel
theorem dL_alike_23 : decode cL_alike 23 = .ok (.ireturn, 1) := by decide +kernel
theorem dL_alike_24 : decode cL_alike 24 = .ok (.iconst 0, 1) := by decide +kernel
theorem dL_alike_25 : decode cL_alike 25 = .ok (.ireturn, 1) := by decide +kernel
abbrev vwCl : List vw_C := [(RJx00060, TJx00060, 6), (RX0, TX0, 5), (RX1, TX1, 5), (RX2, TX2, 6), (RX3, TX3, 6), (RX4, TX4, 17)]
