/-! the law's bytes -/
theorem dL_law_0 : decode code 0 = .ok (.new 8, 3) := by decide +kernel
theorem dL_law_3 : decode code 3 = .ok (.dup, 1) := by decide +kernel
theorem dL_law_4 : decode code 4 = .ok (.invokespecial 61, 3) := by decide +kernel
theorem dL_law_7 : decode code 7 = .ok (.astore_n 1, 1) := by decide +kernel
theorem dL_law_8 : decode code 8 = .ok (.new 62, 3) := by decide +kernel
theorem dL_law_11 : decode code 11 = .ok (.dup, 1) := by decide +kernel
theorem dL_law_12 : decode code 12 = .ok (.invokespecial 64, 3) := by decide +kernel
theorem dL_law_15 : decode code 15 = .ok (.astore_n 2, 1) := by decide +kernel
theorem dL_law_16 : decode code 16 = .ok (.iconst 1, 1) := by decide +kernel
theorem dL_law_17 : decode code 17 = .ok (.newarray .long, 2) := by decide +kernel
theorem dL_law_19 : decode code 19 = .ok (.astore_n 3, 1) := by decide +kernel
theorem dL_law_20 : decode code 20 = .ok (.iconst 0, 1) := by decide +kernel
theorem dL_law_21 : decode code 21 = .ok (.istore 4, 2) := by decide +kernel
theorem dL_law_23 : decode code 23 = .ok (.iload 4, 2) := by decide +kernel
theorem dL_law_25 : decode code 25 = .ok (.aload_n 0, 1) := by decide +kernel
theorem dL_law_26 : decode code 26 = .ok (.arraylength, 1) := by decide +kernel
theorem dL_law_27 : decode code 27 = .ok (.iconst 5, 1) := by decide +kernel
theorem dL_law_28 : decode code 28 = .ok (.isub, 1) := by decide +kernel
theorem dL_law_29 : decode code 29 = .ok (.if_icmp .gt 988, 3) := by decide +kernel
theorem dL_law_32 : decode code 32 = .ok (.aload_n 0, 1) := by decide +kernel
theorem dL_law_33 : decode code 33 = .ok (.iload 4, 2) := by decide +kernel
theorem dL_law_35 : decode code 35 = .ok (.iaload, 1) := by decide +kernel
theorem dL_law_36 : decode code 36 = .ok (.bipush 15, 2) := by decide +kernel
theorem dL_law_38 : decode code 38 = .ok (.iand, 1) := by decide +kernel
theorem dL_law_39 : decode code 39 = .ok (.tableswitch 972 0 14 #[73, 129, 185, 265, 357, 405, 465, 533, 601, 657, 713, 805, 861, 936, 961], 73) := by decide +kernel
theorem dL_law_112 : decode code 112 = .ok (.aload_n 1, 1) := by decide +kernel
theorem dL_law_113 : decode code 113 = .ok (.aload_n 0, 1) := by decide +kernel
theorem dL_law_114 : decode code 114 = .ok (.iload 4, 2) := by decide +kernel
theorem dL_law_116 : decode code 116 = .ok (.iconst 1, 1) := by decide +kernel
theorem dL_law_117 : decode code 117 = .ok (.iadd, 1) := by decide +kernel
theorem dL_law_118 : decode code 118 = .ok (.iaload, 1) := by decide +kernel
theorem dL_law_119 : decode code 119 = .ok (.aload_n 3, 1) := by decide +kernel
theorem dL_law_120 : decode code 120 = .ok (.invokestatic 65, 3) := by decide +kernel
theorem dL_law_123 : decode code 123 = .ok (.istore 5, 2) := by decide +kernel
theorem dL_law_125 : decode code 125 = .ok (.aload_n 2, 1) := by decide +kernel
theorem dL_law_126 : decode code 126 = .ok (.aload_n 0, 1) := by decide +kernel
theorem dL_law_127 : decode code 127 = .ok (.iload 4, 2) := by decide +kernel
theorem dL_law_129 : decode code 129 = .ok (.iconst 1, 1) := by decide +kernel
theorem dL_law_130 : decode code 130 = .ok (.iadd, 1) := by decide +kernel
theorem dL_law_131 : decode code 131 = .ok (.iaload, 1) := by decide +kernel
theorem dL_law_132 : decode code 132 = .ok (.invokevirtual 70, 3) := by decide +kernel
theorem dL_law_135 : decode code 135 = .ok (.istore 6, 2) := by decide +kernel
theorem dL_law_137 : decode code 137 = .ok (.aload_n 2, 1) := by decide +kernel
theorem dL_law_138 : decode code 138 = .ok (.invokevirtual 71, 3) := by decide +kernel
theorem dL_law_141 : decode code 141 = .ok (.iload 5, 2) := by decide +kernel
theorem dL_law_143 : decode code 143 = .ok (.if_icmp .eq 5, 3) := by decide +kernel
theorem dL_law_146 : decode code 146 = .ok (.iconst 0, 1) := by decide +kernel
theorem dL_law_147 : decode code 147 = .ok (.ireturn, 1) := by decide +kernel
theorem dL_law_148 : decode code 148 = .ok (.iload 5, 2) := by decide +kernel
theorem dL_law_150 : decode code 150 = .ok (.ifCond .ne 15, 3) := by decide +kernel
theorem dL_law_153 : decode code 153 = .ok (.aload_n 3, 1) := by decide +kernel
theorem dL_law_154 : decode code 154 = .ok (.iconst 0, 1) := by decide +kernel
theorem dL_law_155 : decode code 155 = .ok (.laload, 1) := by decide +kernel
theorem dL_law_156 : decode code 156 = .ok (.iload 6, 2) := by decide +kernel
theorem dL_law_158 : decode code 158 = .ok (.i2l, 1) := by decide +kernel
theorem dL_law_159 : decode code 159 = .ok (.lcmp, 1) := by decide +kernel
theorem dL_law_160 : decode code 160 = .ok (.ifCond .eq 5, 3) := by decide +kernel
theorem dL_law_163 : decode code 163 = .ok (.iconst 0, 1) := by decide +kernel
theorem dL_law_164 : decode code 164 = .ok (.ireturn, 1) := by decide +kernel
theorem dL_law_165 : decode code 165 = .ok (.goto 846, 3) := by decide +kernel
theorem dL_law_168 : decode code 168 = .ok (.aload_n 1, 1) := by decide +kernel
theorem dL_law_169 : decode code 169 = .ok (.aload_n 0, 1) := by decide +kernel
theorem dL_law_170 : decode code 170 = .ok (.iload 4, 2) := by decide +kernel
theorem dL_law_172 : decode code 172 = .ok (.iconst 1, 1) := by decide +kernel
theorem dL_law_173 : decode code 173 = .ok (.iadd, 1) := by decide +kernel
theorem dL_law_174 : decode code 174 = .ok (.iaload, 1) := by decide +kernel
theorem dL_law_175 : decode code 175 = .ok (.aload_n 3, 1) := by decide +kernel
theorem dL_law_176 : decode code 176 = .ok (.invokestatic 75, 3) := by decide +kernel
theorem dL_law_179 : decode code 179 = .ok (.istore 5, 2) := by decide +kernel
theorem dL_law_181 : decode code 181 = .ok (.aload_n 2, 1) := by decide +kernel
theorem dL_law_182 : decode code 182 = .ok (.aload_n 0, 1) := by decide +kernel
theorem dL_law_183 : decode code 183 = .ok (.iload 4, 2) := by decide +kernel
theorem dL_law_185 : decode code 185 = .ok (.iconst 1, 1) := by decide +kernel
theorem dL_law_186 : decode code 186 = .ok (.iadd, 1) := by decide +kernel
theorem dL_law_187 : decode code 187 = .ok (.iaload, 1) := by decide +kernel
theorem dL_law_188 : decode code 188 = .ok (.invokevirtual 77, 3) := by decide +kernel
theorem dL_law_191 : decode code 191 = .ok (.istore 6, 2) := by decide +kernel
theorem dL_law_193 : decode code 193 = .ok (.aload_n 2, 1) := by decide +kernel
theorem dL_law_194 : decode code 194 = .ok (.invokevirtual 71, 3) := by decide +kernel
theorem dL_law_197 : decode code 197 = .ok (.iload 5, 2) := by decide +kernel
theorem dL_law_199 : decode code 199 = .ok (.if_icmp .eq 5, 3) := by decide +kernel
theorem dL_law_202 : decode code 202 = .ok (.iconst 0, 1) := by decide +kernel
theorem dL_law_203 : decode code 203 = .ok (.ireturn, 1) := by decide +kernel
theorem dL_law_204 : decode code 204 = .ok (.iload 5, 2) := by decide +kernel
theorem dL_law_206 : decode code 206 = .ok (.ifCond .ne 15, 3) := by decide +kernel
theorem dL_law_209 : decode code 209 = .ok (.aload_n 3, 1) := by decide +kernel
theorem dL_law_210 : decode code 210 = .ok (.iconst 0, 1) := by decide +kernel
theorem dL_law_211 : decode code 211 = .ok (.laload, 1) := by decide +kernel
theorem dL_law_212 : decode code 212 = .ok (.iload 6, 2) := by decide +kernel
theorem dL_law_214 : decode code 214 = .ok (.i2l, 1) := by decide +kernel
theorem dL_law_215 : decode code 215 = .ok (.lcmp, 1) := by decide +kernel
theorem dL_law_216 : decode code 216 = .ok (.ifCond .eq 5, 3) := by decide +kernel
theorem dL_law_219 : decode code 219 = .ok (.iconst 0, 1) := by decide +kernel
theorem dL_law_220 : decode code 220 = .ok (.ireturn, 1) := by decide +kernel
theorem dL_law_221 : decode code 221 = .ok (.goto 790, 3) := by decide +kernel
theorem dL_law_224 : decode code 224 = .ok (.aload_n 1, 1) := by decide +kernel
theorem dL_law_225 : decode code 225 = .ok (.aload_n 0, 1) := by decide +kernel
theorem dL_law_226 : decode code 226 = .ok (.iload 4, 2) := by decide +kernel
theorem dL_law_228 : decode code 228 = .ok (.iconst 1, 1) := by decide +kernel
theorem dL_law_229 : decode code 229 = .ok (.iadd, 1) := by decide +kernel
theorem dL_law_230 : decode code 230 = .ok (.iaload, 1) := by decide +kernel
theorem dL_law_231 : decode code 231 = .ok (.aload_n 0, 1) := by decide +kernel
theorem dL_law_232 : decode code 232 = .ok (.iload 4, 2) := by decide +kernel
theorem dL_law_234 : decode code 234 = .ok (.iconst 2, 1) := by decide +kernel
theorem dL_law_235 : decode code 235 = .ok (.iadd, 1) := by decide +kernel
theorem dL_law_236 : decode code 236 = .ok (.iaload, 1) := by decide +kernel
theorem dL_law_237 : decode code 237 = .ok (.aload_n 0, 1) := by decide +kernel
theorem dL_law_238 : decode code 238 = .ok (.iload 4, 2) := by decide +kernel
theorem dL_law_240 : decode code 240 = .ok (.iconst 3, 1) := by decide +kernel
theorem dL_law_241 : decode code 241 = .ok (.iadd, 1) := by decide +kernel
theorem dL_law_242 : decode code 242 = .ok (.iaload, 1) := by decide +kernel
theorem dL_law_243 : decode code 243 = .ok (.aload_n 3, 1) := by decide +kernel
theorem dL_law_244 : decode code 244 = .ok (.invokestatic 78, 3) := by decide +kernel
theorem dL_law_247 : decode code 247 = .ok (.istore 5, 2) := by decide +kernel
theorem dL_law_249 : decode code 249 = .ok (.aload_n 2, 1) := by decide +kernel
theorem dL_law_250 : decode code 250 = .ok (.aload_n 0, 1) := by decide +kernel
theorem dL_law_251 : decode code 251 = .ok (.iload 4, 2) := by decide +kernel
theorem dL_law_253 : decode code 253 = .ok (.iconst 1, 1) := by decide +kernel
theorem dL_law_254 : decode code 254 = .ok (.iadd, 1) := by decide +kernel
theorem dL_law_255 : decode code 255 = .ok (.iaload, 1) := by decide +kernel
theorem dL_law_256 : decode code 256 = .ok (.aload_n 0, 1) := by decide +kernel
theorem dL_law_257 : decode code 257 = .ok (.iload 4, 2) := by decide +kernel
theorem dL_law_259 : decode code 259 = .ok (.iconst 2, 1) := by decide +kernel
theorem dL_law_260 : decode code 260 = .ok (.iadd, 1) := by decide +kernel
theorem dL_law_261 : decode code 261 = .ok (.iaload, 1) := by decide +kernel
theorem dL_law_262 : decode code 262 = .ok (.aload_n 0, 1) := by decide +kernel
theorem dL_law_263 : decode code 263 = .ok (.iload 4, 2) := by decide +kernel
theorem dL_law_265 : decode code 265 = .ok (.iconst 3, 1) := by decide +kernel
theorem dL_law_266 : decode code 266 = .ok (.iadd, 1) := by decide +kernel
theorem dL_law_267 : decode code 267 = .ok (.iaload, 1) := by decide +kernel
theorem dL_law_268 : decode code 268 = .ok (.invokevirtual 81, 3) := by decide +kernel
theorem dL_law_271 : decode code 271 = .ok (.istore 6, 2) := by decide +kernel
theorem dL_law_273 : decode code 273 = .ok (.aload_n 2, 1) := by decide +kernel
theorem dL_law_274 : decode code 274 = .ok (.invokevirtual 71, 3) := by decide +kernel
theorem dL_law_277 : decode code 277 = .ok (.iload 5, 2) := by decide +kernel
theorem dL_law_279 : decode code 279 = .ok (.if_icmp .eq 5, 3) := by decide +kernel
theorem dL_law_282 : decode code 282 = .ok (.iconst 0, 1) := by decide +kernel
theorem dL_law_283 : decode code 283 = .ok (.ireturn, 1) := by decide +kernel
theorem dL_law_284 : decode code 284 = .ok (.iload 5, 2) := by decide +kernel
theorem dL_law_286 : decode code 286 = .ok (.ifCond .ne 15, 3) := by decide +kernel
theorem dL_law_289 : decode code 289 = .ok (.aload_n 3, 1) := by decide +kernel
theorem dL_law_290 : decode code 290 = .ok (.iconst 0, 1) := by decide +kernel
theorem dL_law_291 : decode code 291 = .ok (.laload, 1) := by decide +kernel
theorem dL_law_292 : decode code 292 = .ok (.iload 6, 2) := by decide +kernel
theorem dL_law_294 : decode code 294 = .ok (.i2l, 1) := by decide +kernel
theorem dL_law_295 : decode code 295 = .ok (.lcmp, 1) := by decide +kernel
theorem dL_law_296 : decode code 296 = .ok (.ifCond .eq 5, 3) := by decide +kernel
theorem dL_law_299 : decode code 299 = .ok (.iconst 0, 1) := by decide +kernel
theorem dL_law_300 : decode code 300 = .ok (.ireturn, 1) := by decide +kernel
theorem dL_law_301 : decode code 301 = .ok (.goto 710, 3) := by decide +kernel
theorem dL_law_304 : decode code 304 = .ok (.aload_n 1, 1) := by decide +kernel
theorem dL_law_305 : decode code 305 = .ok (.aload_n 0, 1) := by decide +kernel
theorem dL_law_306 : decode code 306 = .ok (.iload 4, 2) := by decide +kernel
theorem dL_law_308 : decode code 308 = .ok (.iconst 1, 1) := by decide +kernel
theorem dL_law_309 : decode code 309 = .ok (.iadd, 1) := by decide +kernel
theorem dL_law_310 : decode code 310 = .ok (.iaload, 1) := by decide +kernel
theorem dL_law_311 : decode code 311 = .ok (.aload_n 0, 1) := by decide +kernel
theorem dL_law_312 : decode code 312 = .ok (.iload 4, 2) := by decide +kernel
theorem dL_law_314 : decode code 314 = .ok (.iconst 2, 1) := by decide +kernel
theorem dL_law_315 : decode code 315 = .ok (.iadd, 1) := by decide +kernel
theorem dL_law_316 : decode code 316 = .ok (.iaload, 1) := by decide +kernel
theorem dL_law_317 : decode code 317 = .ok (.aload_n 0, 1) := by decide +kernel
theorem dL_law_318 : decode code 318 = .ok (.iload 4, 2) := by decide +kernel
theorem dL_law_320 : decode code 320 = .ok (.iconst 3, 1) := by decide +kernel
theorem dL_law_321 : decode code 321 = .ok (.iadd, 1) := by decide +kernel
theorem dL_law_322 : decode code 322 = .ok (.iaload, 1) := by decide +kernel
theorem dL_law_323 : decode code 323 = .ok (.aload_n 0, 1) := by decide +kernel
theorem dL_law_324 : decode code 324 = .ok (.iload 4, 2) := by decide +kernel
theorem dL_law_326 : decode code 326 = .ok (.iconst 4, 1) := by decide +kernel
theorem dL_law_327 : decode code 327 = .ok (.iadd, 1) := by decide +kernel
theorem dL_law_328 : decode code 328 = .ok (.iaload, 1) := by decide +kernel
theorem dL_law_329 : decode code 329 = .ok (.aload_n 3, 1) := by decide +kernel
theorem dL_law_330 : decode code 330 = .ok (.invokestatic 82, 3) := by decide +kernel
theorem dL_law_333 : decode code 333 = .ok (.istore 5, 2) := by decide +kernel
theorem dL_law_335 : decode code 335 = .ok (.aload_n 2, 1) := by decide +kernel
theorem dL_law_336 : decode code 336 = .ok (.aload_n 0, 1) := by decide +kernel
theorem dL_law_337 : decode code 337 = .ok (.iload 4, 2) := by decide +kernel
theorem dL_law_339 : decode code 339 = .ok (.iconst 1, 1) := by decide +kernel
theorem dL_law_340 : decode code 340 = .ok (.iadd, 1) := by decide +kernel
theorem dL_law_341 : decode code 341 = .ok (.iaload, 1) := by decide +kernel
theorem dL_law_342 : decode code 342 = .ok (.aload_n 0, 1) := by decide +kernel
theorem dL_law_343 : decode code 343 = .ok (.iload 4, 2) := by decide +kernel
theorem dL_law_345 : decode code 345 = .ok (.iconst 2, 1) := by decide +kernel
theorem dL_law_346 : decode code 346 = .ok (.iadd, 1) := by decide +kernel
theorem dL_law_347 : decode code 347 = .ok (.iaload, 1) := by decide +kernel
theorem dL_law_348 : decode code 348 = .ok (.aload_n 0, 1) := by decide +kernel
theorem dL_law_349 : decode code 349 = .ok (.iload 4, 2) := by decide +kernel
theorem dL_law_351 : decode code 351 = .ok (.iconst 3, 1) := by decide +kernel
theorem dL_law_352 : decode code 352 = .ok (.iadd, 1) := by decide +kernel
theorem dL_law_353 : decode code 353 = .ok (.iaload, 1) := by decide +kernel
theorem dL_law_354 : decode code 354 = .ok (.aload_n 0, 1) := by decide +kernel
theorem dL_law_355 : decode code 355 = .ok (.iload 4, 2) := by decide +kernel
theorem dL_law_357 : decode code 357 = .ok (.iconst 4, 1) := by decide +kernel
theorem dL_law_358 : decode code 358 = .ok (.iadd, 1) := by decide +kernel
theorem dL_law_359 : decode code 359 = .ok (.iaload, 1) := by decide +kernel
theorem dL_law_360 : decode code 360 = .ok (.invokevirtual 85, 3) := by decide +kernel
theorem dL_law_363 : decode code 363 = .ok (.istore 6, 2) := by decide +kernel
theorem dL_law_365 : decode code 365 = .ok (.aload_n 2, 1) := by decide +kernel
theorem dL_law_366 : decode code 366 = .ok (.invokevirtual 71, 3) := by decide +kernel
theorem dL_law_369 : decode code 369 = .ok (.iload 5, 2) := by decide +kernel
theorem dL_law_371 : decode code 371 = .ok (.if_icmp .eq 5, 3) := by decide +kernel
theorem dL_law_374 : decode code 374 = .ok (.iconst 0, 1) := by decide +kernel
theorem dL_law_375 : decode code 375 = .ok (.ireturn, 1) := by decide +kernel
theorem dL_law_376 : decode code 376 = .ok (.iload 5, 2) := by decide +kernel
theorem dL_law_378 : decode code 378 = .ok (.ifCond .ne 15, 3) := by decide +kernel
theorem dL_law_381 : decode code 381 = .ok (.aload_n 3, 1) := by decide +kernel
theorem dL_law_382 : decode code 382 = .ok (.iconst 0, 1) := by decide +kernel
theorem dL_law_383 : decode code 383 = .ok (.laload, 1) := by decide +kernel
theorem dL_law_384 : decode code 384 = .ok (.iload 6, 2) := by decide +kernel
theorem dL_law_386 : decode code 386 = .ok (.i2l, 1) := by decide +kernel
theorem dL_law_387 : decode code 387 = .ok (.lcmp, 1) := by decide +kernel
theorem dL_law_388 : decode code 388 = .ok (.ifCond .eq 5, 3) := by decide +kernel
theorem dL_law_391 : decode code 391 = .ok (.iconst 0, 1) := by decide +kernel
theorem dL_law_392 : decode code 392 = .ok (.ireturn, 1) := by decide +kernel
theorem dL_law_393 : decode code 393 = .ok (.goto 618, 3) := by decide +kernel
theorem dL_law_396 : decode code 396 = .ok (.aload_n 1, 1) := by decide +kernel
theorem dL_law_397 : decode code 397 = .ok (.aload_n 0, 1) := by decide +kernel
theorem dL_law_398 : decode code 398 = .ok (.iload 4, 2) := by decide +kernel
theorem dL_law_400 : decode code 400 = .ok (.iconst 1, 1) := by decide +kernel
theorem dL_law_401 : decode code 401 = .ok (.iadd, 1) := by decide +kernel
theorem dL_law_402 : decode code 402 = .ok (.iaload, 1) := by decide +kernel
theorem dL_law_403 : decode code 403 = .ok (.aload_n 0, 1) := by decide +kernel
theorem dL_law_404 : decode code 404 = .ok (.iload 4, 2) := by decide +kernel
theorem dL_law_406 : decode code 406 = .ok (.iconst 2, 1) := by decide +kernel
theorem dL_law_407 : decode code 407 = .ok (.iadd, 1) := by decide +kernel
theorem dL_law_408 : decode code 408 = .ok (.iaload, 1) := by decide +kernel
theorem dL_law_409 : decode code 409 = .ok (.invokestatic 86, 3) := by decide +kernel
theorem dL_law_412 : decode code 412 = .ok (.istore 5, 2) := by decide +kernel
theorem dL_law_414 : decode code 414 = .ok (.aload_n 2, 1) := by decide +kernel
theorem dL_law_415 : decode code 415 = .ok (.aload_n 0, 1) := by decide +kernel
theorem dL_law_416 : decode code 416 = .ok (.iload 4, 2) := by decide +kernel
theorem dL_law_418 : decode code 418 = .ok (.iconst 1, 1) := by decide +kernel
theorem dL_law_419 : decode code 419 = .ok (.iadd, 1) := by decide +kernel
theorem dL_law_420 : decode code 420 = .ok (.iaload, 1) := by decide +kernel
theorem dL_law_421 : decode code 421 = .ok (.aload_n 0, 1) := by decide +kernel
theorem dL_law_422 : decode code 422 = .ok (.iload 4, 2) := by decide +kernel
theorem dL_law_424 : decode code 424 = .ok (.iconst 2, 1) := by decide +kernel
theorem dL_law_425 : decode code 425 = .ok (.iadd, 1) := by decide +kernel
theorem dL_law_426 : decode code 426 = .ok (.iaload, 1) := by decide +kernel
theorem dL_law_427 : decode code 427 = .ok (.invokevirtual 89, 3) := by decide +kernel
theorem dL_law_430 : decode code 430 = .ok (.aload_n 2, 1) := by decide +kernel
theorem dL_law_431 : decode code 431 = .ok (.invokevirtual 71, 3) := by decide +kernel
theorem dL_law_434 : decode code 434 = .ok (.iload 5, 2) := by decide +kernel
theorem dL_law_436 : decode code 436 = .ok (.if_icmp .eq 5, 3) := by decide +kernel
theorem dL_law_439 : decode code 439 = .ok (.iconst 0, 1) := by decide +kernel
theorem dL_law_440 : decode code 440 = .ok (.ireturn, 1) := by decide +kernel
theorem dL_law_441 : decode code 441 = .ok (.goto 570, 3) := by decide +kernel
theorem dL_law_444 : decode code 444 = .ok (.aload_n 1, 1) := by decide +kernel
theorem dL_law_445 : decode code 445 = .ok (.aload_n 0, 1) := by decide +kernel
theorem dL_law_446 : decode code 446 = .ok (.iload 4, 2) := by decide +kernel
theorem dL_law_448 : decode code 448 = .ok (.iconst 1, 1) := by decide +kernel
theorem dL_law_449 : decode code 449 = .ok (.iadd, 1) := by decide +kernel
theorem dL_law_450 : decode code 450 = .ok (.iaload, 1) := by decide +kernel
theorem dL_law_451 : decode code 451 = .ok (.aload_n 0, 1) := by decide +kernel
theorem dL_law_452 : decode code 452 = .ok (.iload 4, 2) := by decide +kernel
theorem dL_law_454 : decode code 454 = .ok (.iconst 2, 1) := by decide +kernel
theorem dL_law_455 : decode code 455 = .ok (.iadd, 1) := by decide +kernel
theorem dL_law_456 : decode code 456 = .ok (.iaload, 1) := by decide +kernel
theorem dL_law_457 : decode code 457 = .ok (.aload_n 0, 1) := by decide +kernel
theorem dL_law_458 : decode code 458 = .ok (.iload 4, 2) := by decide +kernel
theorem dL_law_460 : decode code 460 = .ok (.iconst 3, 1) := by decide +kernel
theorem dL_law_461 : decode code 461 = .ok (.iadd, 1) := by decide +kernel
theorem dL_law_462 : decode code 462 = .ok (.iaload, 1) := by decide +kernel
theorem dL_law_463 : decode code 463 = .ok (.invokestatic 90, 3) := by decide +kernel
theorem dL_law_466 : decode code 466 = .ok (.istore 5, 2) := by decide +kernel
theorem dL_law_468 : decode code 468 = .ok (.aload_n 2, 1) := by decide +kernel
theorem dL_law_469 : decode code 469 = .ok (.aload_n 0, 1) := by decide +kernel
theorem dL_law_470 : decode code 470 = .ok (.iload 4, 2) := by decide +kernel
theorem dL_law_472 : decode code 472 = .ok (.iconst 1, 1) := by decide +kernel
theorem dL_law_473 : decode code 473 = .ok (.iadd, 1) := by decide +kernel
theorem dL_law_474 : decode code 474 = .ok (.iaload, 1) := by decide +kernel
theorem dL_law_475 : decode code 475 = .ok (.aload_n 0, 1) := by decide +kernel
theorem dL_law_476 : decode code 476 = .ok (.iload 4, 2) := by decide +kernel
theorem dL_law_478 : decode code 478 = .ok (.iconst 2, 1) := by decide +kernel
theorem dL_law_479 : decode code 479 = .ok (.iadd, 1) := by decide +kernel
theorem dL_law_480 : decode code 480 = .ok (.iaload, 1) := by decide +kernel
theorem dL_law_481 : decode code 481 = .ok (.aload_n 0, 1) := by decide +kernel
theorem dL_law_482 : decode code 482 = .ok (.iload 4, 2) := by decide +kernel
theorem dL_law_484 : decode code 484 = .ok (.iconst 3, 1) := by decide +kernel
theorem dL_law_485 : decode code 485 = .ok (.iadd, 1) := by decide +kernel
theorem dL_law_486 : decode code 486 = .ok (.iaload, 1) := by decide +kernel
theorem dL_law_487 : decode code 487 = .ok (.invokevirtual 93, 3) := by decide +kernel
theorem dL_law_490 : decode code 490 = .ok (.aload_n 2, 1) := by decide +kernel
theorem dL_law_491 : decode code 491 = .ok (.invokevirtual 71, 3) := by decide +kernel
theorem dL_law_494 : decode code 494 = .ok (.iload 5, 2) := by decide +kernel
theorem dL_law_496 : decode code 496 = .ok (.if_icmp .eq 5, 3) := by decide +kernel
theorem dL_law_499 : decode code 499 = .ok (.iconst 0, 1) := by decide +kernel
theorem dL_law_500 : decode code 500 = .ok (.ireturn, 1) := by decide +kernel
theorem dL_law_501 : decode code 501 = .ok (.goto 510, 3) := by decide +kernel
theorem dL_law_504 : decode code 504 = .ok (.aload_n 1, 1) := by decide +kernel
theorem dL_law_505 : decode code 505 = .ok (.aload_n 0, 1) := by decide +kernel
theorem dL_law_506 : decode code 506 = .ok (.iload 4, 2) := by decide +kernel
theorem dL_law_508 : decode code 508 = .ok (.iconst 1, 1) := by decide +kernel
theorem dL_law_509 : decode code 509 = .ok (.iadd, 1) := by decide +kernel
theorem dL_law_510 : decode code 510 = .ok (.iaload, 1) := by decide +kernel
theorem dL_law_511 : decode code 511 = .ok (.aload_n 0, 1) := by decide +kernel
theorem dL_law_512 : decode code 512 = .ok (.iload 4, 2) := by decide +kernel
theorem dL_law_514 : decode code 514 = .ok (.iconst 2, 1) := by decide +kernel
theorem dL_law_515 : decode code 515 = .ok (.iadd, 1) := by decide +kernel
theorem dL_law_516 : decode code 516 = .ok (.iaload, 1) := by decide +kernel
theorem dL_law_517 : decode code 517 = .ok (.aload_n 3, 1) := by decide +kernel
theorem dL_law_518 : decode code 518 = .ok (.invokestatic 94, 3) := by decide +kernel
theorem dL_law_521 : decode code 521 = .ok (.istore 5, 2) := by decide +kernel
theorem dL_law_523 : decode code 523 = .ok (.aload_n 2, 1) := by decide +kernel
theorem dL_law_524 : decode code 524 = .ok (.aload_n 0, 1) := by decide +kernel
theorem dL_law_525 : decode code 525 = .ok (.iload 4, 2) := by decide +kernel
theorem dL_law_527 : decode code 527 = .ok (.iconst 1, 1) := by decide +kernel
theorem dL_law_528 : decode code 528 = .ok (.iadd, 1) := by decide +kernel
theorem dL_law_529 : decode code 529 = .ok (.iaload, 1) := by decide +kernel
theorem dL_law_530 : decode code 530 = .ok (.aload_n 0, 1) := by decide +kernel
theorem dL_law_531 : decode code 531 = .ok (.iload 4, 2) := by decide +kernel
theorem dL_law_533 : decode code 533 = .ok (.iconst 2, 1) := by decide +kernel
theorem dL_law_534 : decode code 534 = .ok (.iadd, 1) := by decide +kernel
theorem dL_law_535 : decode code 535 = .ok (.iaload, 1) := by decide +kernel
theorem dL_law_536 : decode code 536 = .ok (.invokevirtual 97, 3) := by decide +kernel
theorem dL_law_539 : decode code 539 = .ok (.istore 6, 2) := by decide +kernel
theorem dL_law_541 : decode code 541 = .ok (.aload_n 2, 1) := by decide +kernel
theorem dL_law_542 : decode code 542 = .ok (.invokevirtual 71, 3) := by decide +kernel
theorem dL_law_545 : decode code 545 = .ok (.iload 5, 2) := by decide +kernel
theorem dL_law_547 : decode code 547 = .ok (.if_icmp .eq 5, 3) := by decide +kernel
theorem dL_law_550 : decode code 550 = .ok (.iconst 0, 1) := by decide +kernel
theorem dL_law_551 : decode code 551 = .ok (.ireturn, 1) := by decide +kernel
theorem dL_law_552 : decode code 552 = .ok (.iload 5, 2) := by decide +kernel
theorem dL_law_554 : decode code 554 = .ok (.ifCond .ne 15, 3) := by decide +kernel
theorem dL_law_557 : decode code 557 = .ok (.aload_n 3, 1) := by decide +kernel
theorem dL_law_558 : decode code 558 = .ok (.iconst 0, 1) := by decide +kernel
theorem dL_law_559 : decode code 559 = .ok (.laload, 1) := by decide +kernel
theorem dL_law_560 : decode code 560 = .ok (.iload 6, 2) := by decide +kernel
theorem dL_law_562 : decode code 562 = .ok (.i2l, 1) := by decide +kernel
theorem dL_law_563 : decode code 563 = .ok (.lcmp, 1) := by decide +kernel
theorem dL_law_564 : decode code 564 = .ok (.ifCond .eq 5, 3) := by decide +kernel
theorem dL_law_567 : decode code 567 = .ok (.iconst 0, 1) := by decide +kernel
theorem dL_law_568 : decode code 568 = .ok (.ireturn, 1) := by decide +kernel
theorem dL_law_569 : decode code 569 = .ok (.goto 442, 3) := by decide +kernel
theorem dL_law_572 : decode code 572 = .ok (.aload_n 1, 1) := by decide +kernel
theorem dL_law_573 : decode code 573 = .ok (.aload_n 0, 1) := by decide +kernel
theorem dL_law_574 : decode code 574 = .ok (.iload 4, 2) := by decide +kernel
theorem dL_law_576 : decode code 576 = .ok (.iconst 1, 1) := by decide +kernel
theorem dL_law_577 : decode code 577 = .ok (.iadd, 1) := by decide +kernel
theorem dL_law_578 : decode code 578 = .ok (.iaload, 1) := by decide +kernel
theorem dL_law_579 : decode code 579 = .ok (.aload_n 0, 1) := by decide +kernel
theorem dL_law_580 : decode code 580 = .ok (.iload 4, 2) := by decide +kernel
theorem dL_law_582 : decode code 582 = .ok (.iconst 2, 1) := by decide +kernel
theorem dL_law_583 : decode code 583 = .ok (.iadd, 1) := by decide +kernel
theorem dL_law_584 : decode code 584 = .ok (.iaload, 1) := by decide +kernel
theorem dL_law_585 : decode code 585 = .ok (.aload_n 3, 1) := by decide +kernel
theorem dL_law_586 : decode code 586 = .ok (.invokestatic 98, 3) := by decide +kernel
theorem dL_law_589 : decode code 589 = .ok (.istore 5, 2) := by decide +kernel
theorem dL_law_591 : decode code 591 = .ok (.aload_n 2, 1) := by decide +kernel
theorem dL_law_592 : decode code 592 = .ok (.aload_n 0, 1) := by decide +kernel
theorem dL_law_593 : decode code 593 = .ok (.iload 4, 2) := by decide +kernel
theorem dL_law_595 : decode code 595 = .ok (.iconst 1, 1) := by decide +kernel
theorem dL_law_596 : decode code 596 = .ok (.iadd, 1) := by decide +kernel
theorem dL_law_597 : decode code 597 = .ok (.iaload, 1) := by decide +kernel
theorem dL_law_598 : decode code 598 = .ok (.aload_n 0, 1) := by decide +kernel
theorem dL_law_599 : decode code 599 = .ok (.iload 4, 2) := by decide +kernel
theorem dL_law_601 : decode code 601 = .ok (.iconst 2, 1) := by decide +kernel
theorem dL_law_602 : decode code 602 = .ok (.iadd, 1) := by decide +kernel
theorem dL_law_603 : decode code 603 = .ok (.iaload, 1) := by decide +kernel
theorem dL_law_604 : decode code 604 = .ok (.invokevirtual 100, 3) := by decide +kernel
theorem dL_law_607 : decode code 607 = .ok (.istore 6, 2) := by decide +kernel
theorem dL_law_609 : decode code 609 = .ok (.aload_n 2, 1) := by decide +kernel
theorem dL_law_610 : decode code 610 = .ok (.invokevirtual 71, 3) := by decide +kernel
theorem dL_law_613 : decode code 613 = .ok (.iload 5, 2) := by decide +kernel
theorem dL_law_615 : decode code 615 = .ok (.if_icmp .eq 5, 3) := by decide +kernel
theorem dL_law_618 : decode code 618 = .ok (.iconst 0, 1) := by decide +kernel
theorem dL_law_619 : decode code 619 = .ok (.ireturn, 1) := by decide +kernel
theorem dL_law_620 : decode code 620 = .ok (.iload 5, 2) := by decide +kernel
theorem dL_law_622 : decode code 622 = .ok (.ifCond .ne 15, 3) := by decide +kernel
theorem dL_law_625 : decode code 625 = .ok (.aload_n 3, 1) := by decide +kernel
theorem dL_law_626 : decode code 626 = .ok (.iconst 0, 1) := by decide +kernel
theorem dL_law_627 : decode code 627 = .ok (.laload, 1) := by decide +kernel
theorem dL_law_628 : decode code 628 = .ok (.iload 6, 2) := by decide +kernel
theorem dL_law_630 : decode code 630 = .ok (.i2l, 1) := by decide +kernel
theorem dL_law_631 : decode code 631 = .ok (.lcmp, 1) := by decide +kernel
theorem dL_law_632 : decode code 632 = .ok (.ifCond .eq 5, 3) := by decide +kernel
theorem dL_law_635 : decode code 635 = .ok (.iconst 0, 1) := by decide +kernel
theorem dL_law_636 : decode code 636 = .ok (.ireturn, 1) := by decide +kernel
theorem dL_law_637 : decode code 637 = .ok (.goto 374, 3) := by decide +kernel
theorem dL_law_640 : decode code 640 = .ok (.aload_n 1, 1) := by decide +kernel
theorem dL_law_641 : decode code 641 = .ok (.aload_n 0, 1) := by decide +kernel
theorem dL_law_642 : decode code 642 = .ok (.iload 4, 2) := by decide +kernel
theorem dL_law_644 : decode code 644 = .ok (.iconst 1, 1) := by decide +kernel
theorem dL_law_645 : decode code 645 = .ok (.iadd, 1) := by decide +kernel
theorem dL_law_646 : decode code 646 = .ok (.iaload, 1) := by decide +kernel
theorem dL_law_647 : decode code 647 = .ok (.aload_n 3, 1) := by decide +kernel
theorem dL_law_648 : decode code 648 = .ok (.invokestatic 101, 3) := by decide +kernel
theorem dL_law_651 : decode code 651 = .ok (.istore 5, 2) := by decide +kernel
theorem dL_law_653 : decode code 653 = .ok (.aload_n 2, 1) := by decide +kernel
theorem dL_law_654 : decode code 654 = .ok (.aload_n 0, 1) := by decide +kernel
theorem dL_law_655 : decode code 655 = .ok (.iload 4, 2) := by decide +kernel
theorem dL_law_657 : decode code 657 = .ok (.iconst 1, 1) := by decide +kernel
theorem dL_law_658 : decode code 658 = .ok (.iadd, 1) := by decide +kernel
theorem dL_law_659 : decode code 659 = .ok (.iaload, 1) := by decide +kernel
theorem dL_law_660 : decode code 660 = .ok (.invokevirtual 103, 3) := by decide +kernel
theorem dL_law_663 : decode code 663 = .ok (.istore 6, 2) := by decide +kernel
theorem dL_law_665 : decode code 665 = .ok (.aload_n 2, 1) := by decide +kernel
theorem dL_law_666 : decode code 666 = .ok (.invokevirtual 71, 3) := by decide +kernel
theorem dL_law_669 : decode code 669 = .ok (.iload 5, 2) := by decide +kernel
theorem dL_law_671 : decode code 671 = .ok (.if_icmp .eq 5, 3) := by decide +kernel
theorem dL_law_674 : decode code 674 = .ok (.iconst 0, 1) := by decide +kernel
theorem dL_law_675 : decode code 675 = .ok (.ireturn, 1) := by decide +kernel
theorem dL_law_676 : decode code 676 = .ok (.iload 5, 2) := by decide +kernel
theorem dL_law_678 : decode code 678 = .ok (.ifCond .ne 15, 3) := by decide +kernel
theorem dL_law_681 : decode code 681 = .ok (.aload_n 3, 1) := by decide +kernel
theorem dL_law_682 : decode code 682 = .ok (.iconst 0, 1) := by decide +kernel
theorem dL_law_683 : decode code 683 = .ok (.laload, 1) := by decide +kernel
theorem dL_law_684 : decode code 684 = .ok (.iload 6, 2) := by decide +kernel
theorem dL_law_686 : decode code 686 = .ok (.i2l, 1) := by decide +kernel
theorem dL_law_687 : decode code 687 = .ok (.lcmp, 1) := by decide +kernel
theorem dL_law_688 : decode code 688 = .ok (.ifCond .eq 5, 3) := by decide +kernel
theorem dL_law_691 : decode code 691 = .ok (.iconst 0, 1) := by decide +kernel
theorem dL_law_692 : decode code 692 = .ok (.ireturn, 1) := by decide +kernel
theorem dL_law_693 : decode code 693 = .ok (.goto 318, 3) := by decide +kernel
theorem dL_law_696 : decode code 696 = .ok (.aload_n 1, 1) := by decide +kernel
theorem dL_law_697 : decode code 697 = .ok (.aload_n 0, 1) := by decide +kernel
theorem dL_law_698 : decode code 698 = .ok (.iload 4, 2) := by decide +kernel
theorem dL_law_700 : decode code 700 = .ok (.iconst 1, 1) := by decide +kernel
theorem dL_law_701 : decode code 701 = .ok (.iadd, 1) := by decide +kernel
theorem dL_law_702 : decode code 702 = .ok (.iaload, 1) := by decide +kernel
theorem dL_law_703 : decode code 703 = .ok (.aload_n 3, 1) := by decide +kernel
theorem dL_law_704 : decode code 704 = .ok (.invokestatic 104, 3) := by decide +kernel
theorem dL_law_707 : decode code 707 = .ok (.istore 5, 2) := by decide +kernel
theorem dL_law_709 : decode code 709 = .ok (.aload_n 2, 1) := by decide +kernel
theorem dL_law_710 : decode code 710 = .ok (.aload_n 0, 1) := by decide +kernel
theorem dL_law_711 : decode code 711 = .ok (.iload 4, 2) := by decide +kernel
theorem dL_law_713 : decode code 713 = .ok (.iconst 1, 1) := by decide +kernel
theorem dL_law_714 : decode code 714 = .ok (.iadd, 1) := by decide +kernel
theorem dL_law_715 : decode code 715 = .ok (.iaload, 1) := by decide +kernel
theorem dL_law_716 : decode code 716 = .ok (.invokevirtual 106, 3) := by decide +kernel
theorem dL_law_719 : decode code 719 = .ok (.istore 6, 2) := by decide +kernel
theorem dL_law_721 : decode code 721 = .ok (.aload_n 2, 1) := by decide +kernel
theorem dL_law_722 : decode code 722 = .ok (.invokevirtual 71, 3) := by decide +kernel
theorem dL_law_725 : decode code 725 = .ok (.iload 5, 2) := by decide +kernel
theorem dL_law_727 : decode code 727 = .ok (.if_icmp .eq 5, 3) := by decide +kernel
theorem dL_law_730 : decode code 730 = .ok (.iconst 0, 1) := by decide +kernel
theorem dL_law_731 : decode code 731 = .ok (.ireturn, 1) := by decide +kernel
theorem dL_law_732 : decode code 732 = .ok (.iload 5, 2) := by decide +kernel
theorem dL_law_734 : decode code 734 = .ok (.ifCond .ne 15, 3) := by decide +kernel
theorem dL_law_737 : decode code 737 = .ok (.aload_n 3, 1) := by decide +kernel
theorem dL_law_738 : decode code 738 = .ok (.iconst 0, 1) := by decide +kernel
theorem dL_law_739 : decode code 739 = .ok (.laload, 1) := by decide +kernel
theorem dL_law_740 : decode code 740 = .ok (.iload 6, 2) := by decide +kernel
theorem dL_law_742 : decode code 742 = .ok (.i2l, 1) := by decide +kernel
theorem dL_law_743 : decode code 743 = .ok (.lcmp, 1) := by decide +kernel
theorem dL_law_744 : decode code 744 = .ok (.ifCond .eq 5, 3) := by decide +kernel
theorem dL_law_747 : decode code 747 = .ok (.iconst 0, 1) := by decide +kernel
theorem dL_law_748 : decode code 748 = .ok (.ireturn, 1) := by decide +kernel
theorem dL_law_749 : decode code 749 = .ok (.goto 262, 3) := by decide +kernel
theorem dL_law_752 : decode code 752 = .ok (.aload_n 1, 1) := by decide +kernel
theorem dL_law_753 : decode code 753 = .ok (.aload_n 0, 1) := by decide +kernel
theorem dL_law_754 : decode code 754 = .ok (.iload 4, 2) := by decide +kernel
theorem dL_law_756 : decode code 756 = .ok (.iconst 1, 1) := by decide +kernel
theorem dL_law_757 : decode code 757 = .ok (.iadd, 1) := by decide +kernel
theorem dL_law_758 : decode code 758 = .ok (.iaload, 1) := by decide +kernel
theorem dL_law_759 : decode code 759 = .ok (.aload_n 0, 1) := by decide +kernel
theorem dL_law_760 : decode code 760 = .ok (.iload 4, 2) := by decide +kernel
theorem dL_law_762 : decode code 762 = .ok (.iconst 2, 1) := by decide +kernel
theorem dL_law_763 : decode code 763 = .ok (.iadd, 1) := by decide +kernel
theorem dL_law_764 : decode code 764 = .ok (.iaload, 1) := by decide +kernel
theorem dL_law_765 : decode code 765 = .ok (.aload_n 0, 1) := by decide +kernel
theorem dL_law_766 : decode code 766 = .ok (.iload 4, 2) := by decide +kernel
theorem dL_law_768 : decode code 768 = .ok (.iconst 3, 1) := by decide +kernel
theorem dL_law_769 : decode code 769 = .ok (.iadd, 1) := by decide +kernel
theorem dL_law_770 : decode code 770 = .ok (.iaload, 1) := by decide +kernel
theorem dL_law_771 : decode code 771 = .ok (.aload_n 0, 1) := by decide +kernel
theorem dL_law_772 : decode code 772 = .ok (.iload 4, 2) := by decide +kernel
theorem dL_law_774 : decode code 774 = .ok (.iconst 4, 1) := by decide +kernel
theorem dL_law_775 : decode code 775 = .ok (.iadd, 1) := by decide +kernel
theorem dL_law_776 : decode code 776 = .ok (.iaload, 1) := by decide +kernel
theorem dL_law_777 : decode code 777 = .ok (.aload_n 3, 1) := by decide +kernel
theorem dL_law_778 : decode code 778 = .ok (.invokestatic 107, 3) := by decide +kernel
theorem dL_law_781 : decode code 781 = .ok (.istore 5, 2) := by decide +kernel
theorem dL_law_783 : decode code 783 = .ok (.aload_n 2, 1) := by decide +kernel
theorem dL_law_784 : decode code 784 = .ok (.aload_n 0, 1) := by decide +kernel
theorem dL_law_785 : decode code 785 = .ok (.iload 4, 2) := by decide +kernel
theorem dL_law_787 : decode code 787 = .ok (.iconst 1, 1) := by decide +kernel
theorem dL_law_788 : decode code 788 = .ok (.iadd, 1) := by decide +kernel
theorem dL_law_789 : decode code 789 = .ok (.iaload, 1) := by decide +kernel
theorem dL_law_790 : decode code 790 = .ok (.aload_n 0, 1) := by decide +kernel
theorem dL_law_791 : decode code 791 = .ok (.iload 4, 2) := by decide +kernel
theorem dL_law_793 : decode code 793 = .ok (.iconst 2, 1) := by decide +kernel
theorem dL_law_794 : decode code 794 = .ok (.iadd, 1) := by decide +kernel
theorem dL_law_795 : decode code 795 = .ok (.iaload, 1) := by decide +kernel
theorem dL_law_796 : decode code 796 = .ok (.aload_n 0, 1) := by decide +kernel
theorem dL_law_797 : decode code 797 = .ok (.iload 4, 2) := by decide +kernel
theorem dL_law_799 : decode code 799 = .ok (.iconst 3, 1) := by decide +kernel
theorem dL_law_800 : decode code 800 = .ok (.iadd, 1) := by decide +kernel
theorem dL_law_801 : decode code 801 = .ok (.iaload, 1) := by decide +kernel
theorem dL_law_802 : decode code 802 = .ok (.aload_n 0, 1) := by decide +kernel
theorem dL_law_803 : decode code 803 = .ok (.iload 4, 2) := by decide +kernel
theorem dL_law_805 : decode code 805 = .ok (.iconst 4, 1) := by decide +kernel
theorem dL_law_806 : decode code 806 = .ok (.iadd, 1) := by decide +kernel
theorem dL_law_807 : decode code 807 = .ok (.iaload, 1) := by decide +kernel
theorem dL_law_808 : decode code 808 = .ok (.invokevirtual 109, 3) := by decide +kernel
theorem dL_law_811 : decode code 811 = .ok (.istore 6, 2) := by decide +kernel
theorem dL_law_813 : decode code 813 = .ok (.aload_n 2, 1) := by decide +kernel
theorem dL_law_814 : decode code 814 = .ok (.invokevirtual 71, 3) := by decide +kernel
theorem dL_law_817 : decode code 817 = .ok (.iload 5, 2) := by decide +kernel
theorem dL_law_819 : decode code 819 = .ok (.if_icmp .eq 5, 3) := by decide +kernel
theorem dL_law_822 : decode code 822 = .ok (.iconst 0, 1) := by decide +kernel
theorem dL_law_823 : decode code 823 = .ok (.ireturn, 1) := by decide +kernel
theorem dL_law_824 : decode code 824 = .ok (.iload 5, 2) := by decide +kernel
theorem dL_law_826 : decode code 826 = .ok (.ifCond .ne 15, 3) := by decide +kernel
theorem dL_law_829 : decode code 829 = .ok (.aload_n 3, 1) := by decide +kernel
theorem dL_law_830 : decode code 830 = .ok (.iconst 0, 1) := by decide +kernel
theorem dL_law_831 : decode code 831 = .ok (.laload, 1) := by decide +kernel
theorem dL_law_832 : decode code 832 = .ok (.iload 6, 2) := by decide +kernel
theorem dL_law_834 : decode code 834 = .ok (.i2l, 1) := by decide +kernel
theorem dL_law_835 : decode code 835 = .ok (.lcmp, 1) := by decide +kernel
theorem dL_law_836 : decode code 836 = .ok (.ifCond .eq 5, 3) := by decide +kernel
theorem dL_law_839 : decode code 839 = .ok (.iconst 0, 1) := by decide +kernel
theorem dL_law_840 : decode code 840 = .ok (.ireturn, 1) := by decide +kernel
theorem dL_law_841 : decode code 841 = .ok (.goto 170, 3) := by decide +kernel
theorem dL_law_844 : decode code 844 = .ok (.aload_n 1, 1) := by decide +kernel
theorem dL_law_845 : decode code 845 = .ok (.aload_n 0, 1) := by decide +kernel
theorem dL_law_846 : decode code 846 = .ok (.iload 4, 2) := by decide +kernel
theorem dL_law_848 : decode code 848 = .ok (.iconst 1, 1) := by decide +kernel
theorem dL_law_849 : decode code 849 = .ok (.iadd, 1) := by decide +kernel
theorem dL_law_850 : decode code 850 = .ok (.iaload, 1) := by decide +kernel
theorem dL_law_851 : decode code 851 = .ok (.aload_n 3, 1) := by decide +kernel
theorem dL_law_852 : decode code 852 = .ok (.invokestatic 110, 3) := by decide +kernel
theorem dL_law_855 : decode code 855 = .ok (.istore 5, 2) := by decide +kernel
theorem dL_law_857 : decode code 857 = .ok (.aload_n 2, 1) := by decide +kernel
theorem dL_law_858 : decode code 858 = .ok (.aload_n 0, 1) := by decide +kernel
theorem dL_law_859 : decode code 859 = .ok (.iload 4, 2) := by decide +kernel
theorem dL_law_861 : decode code 861 = .ok (.iconst 1, 1) := by decide +kernel
theorem dL_law_862 : decode code 862 = .ok (.iadd, 1) := by decide +kernel
theorem dL_law_863 : decode code 863 = .ok (.iaload, 1) := by decide +kernel
theorem dL_law_864 : decode code 864 = .ok (.invokevirtual 112, 3) := by decide +kernel
theorem dL_law_867 : decode code 867 = .ok (.istore 6, 2) := by decide +kernel
theorem dL_law_869 : decode code 869 = .ok (.aload_n 2, 1) := by decide +kernel
theorem dL_law_870 : decode code 870 = .ok (.invokevirtual 71, 3) := by decide +kernel
theorem dL_law_873 : decode code 873 = .ok (.iload 5, 2) := by decide +kernel
theorem dL_law_875 : decode code 875 = .ok (.if_icmp .eq 5, 3) := by decide +kernel
theorem dL_law_878 : decode code 878 = .ok (.iconst 0, 1) := by decide +kernel
theorem dL_law_879 : decode code 879 = .ok (.ireturn, 1) := by decide +kernel
theorem dL_law_880 : decode code 880 = .ok (.iload 5, 2) := by decide +kernel
theorem dL_law_882 : decode code 882 = .ok (.ifCond .ne 15, 3) := by decide +kernel
theorem dL_law_885 : decode code 885 = .ok (.aload_n 3, 1) := by decide +kernel
theorem dL_law_886 : decode code 886 = .ok (.iconst 0, 1) := by decide +kernel
theorem dL_law_887 : decode code 887 = .ok (.laload, 1) := by decide +kernel
theorem dL_law_888 : decode code 888 = .ok (.iload 6, 2) := by decide +kernel
theorem dL_law_890 : decode code 890 = .ok (.i2l, 1) := by decide +kernel
theorem dL_law_891 : decode code 891 = .ok (.lcmp, 1) := by decide +kernel
theorem dL_law_892 : decode code 892 = .ok (.ifCond .eq 5, 3) := by decide +kernel
theorem dL_law_895 : decode code 895 = .ok (.iconst 0, 1) := by decide +kernel
theorem dL_law_896 : decode code 896 = .ok (.ireturn, 1) := by decide +kernel
theorem dL_law_897 : decode code 897 = .ok (.goto 114, 3) := by decide +kernel
theorem dL_law_900 : decode code 900 = .ok (.aload_n 1, 1) := by decide +kernel
theorem dL_law_901 : decode code 901 = .ok (.aload_n 0, 1) := by decide +kernel
theorem dL_law_902 : decode code 902 = .ok (.iload 4, 2) := by decide +kernel
theorem dL_law_904 : decode code 904 = .ok (.iconst 1, 1) := by decide +kernel
theorem dL_law_905 : decode code 905 = .ok (.iadd, 1) := by decide +kernel
theorem dL_law_906 : decode code 906 = .ok (.iaload, 1) := by decide +kernel
theorem dL_law_907 : decode code 907 = .ok (.aload_n 0, 1) := by decide +kernel
theorem dL_law_908 : decode code 908 = .ok (.iload 4, 2) := by decide +kernel
theorem dL_law_910 : decode code 910 = .ok (.iconst 2, 1) := by decide +kernel
theorem dL_law_911 : decode code 911 = .ok (.iadd, 1) := by decide +kernel
theorem dL_law_912 : decode code 912 = .ok (.iaload, 1) := by decide +kernel
theorem dL_law_913 : decode code 913 = .ok (.aload_n 3, 1) := by decide +kernel
theorem dL_law_914 : decode code 914 = .ok (.invokestatic 113, 3) := by decide +kernel
theorem dL_law_917 : decode code 917 = .ok (.istore 5, 2) := by decide +kernel
theorem dL_law_919 : decode code 919 = .ok (.aload_n 2, 1) := by decide +kernel
theorem dL_law_920 : decode code 920 = .ok (.aload_n 0, 1) := by decide +kernel
theorem dL_law_921 : decode code 921 = .ok (.iload 4, 2) := by decide +kernel
theorem dL_law_923 : decode code 923 = .ok (.iconst 1, 1) := by decide +kernel
theorem dL_law_924 : decode code 924 = .ok (.iadd, 1) := by decide +kernel
theorem dL_law_925 : decode code 925 = .ok (.iaload, 1) := by decide +kernel
theorem dL_law_926 : decode code 926 = .ok (.aload_n 0, 1) := by decide +kernel
theorem dL_law_927 : decode code 927 = .ok (.iload 4, 2) := by decide +kernel
theorem dL_law_929 : decode code 929 = .ok (.iconst 2, 1) := by decide +kernel
theorem dL_law_930 : decode code 930 = .ok (.iadd, 1) := by decide +kernel
theorem dL_law_931 : decode code 931 = .ok (.iaload, 1) := by decide +kernel
theorem dL_law_932 : decode code 932 = .ok (.invokevirtual 115, 3) := by decide +kernel
theorem dL_law_935 : decode code 935 = .ok (.istore 6, 2) := by decide +kernel
theorem dL_law_937 : decode code 937 = .ok (.aload_n 2, 1) := by decide +kernel
theorem dL_law_938 : decode code 938 = .ok (.invokevirtual 71, 3) := by decide +kernel
theorem dL_law_941 : decode code 941 = .ok (.iload 5, 2) := by decide +kernel
theorem dL_law_943 : decode code 943 = .ok (.if_icmp .eq 5, 3) := by decide +kernel
theorem dL_law_946 : decode code 946 = .ok (.iconst 0, 1) := by decide +kernel
theorem dL_law_947 : decode code 947 = .ok (.ireturn, 1) := by decide +kernel
theorem dL_law_948 : decode code 948 = .ok (.iload 5, 2) := by decide +kernel
theorem dL_law_950 : decode code 950 = .ok (.ifCond .ne 22, 3) := by decide +kernel
theorem dL_law_953 : decode code 953 = .ok (.aload_n 3, 1) := by decide +kernel
theorem dL_law_954 : decode code 954 = .ok (.iconst 0, 1) := by decide +kernel
theorem dL_law_955 : decode code 955 = .ok (.laload, 1) := by decide +kernel
theorem dL_law_956 : decode code 956 = .ok (.iload 6, 2) := by decide +kernel
theorem dL_law_958 : decode code 958 = .ok (.ifCond .eq 7, 3) := by decide +kernel
theorem dL_law_961 : decode code 961 = .ok (.lconst 1, 1) := by decide +kernel
theorem dL_law_962 : decode code 962 = .ok (.goto 4, 3) := by decide +kernel
theorem dL_law_965 : decode code 965 = .ok (.lconst 0, 1) := by decide +kernel
theorem dL_law_966 : decode code 966 = .ok (.lcmp, 1) := by decide +kernel
theorem dL_law_967 : decode code 967 = .ok (.ifCond .eq 5, 3) := by decide +kernel
theorem dL_law_970 : decode code 970 = .ok (.iconst 0, 1) := by decide +kernel
theorem dL_law_971 : decode code 971 = .ok (.ireturn, 1) := by decide +kernel
theorem dL_law_972 : decode code 972 = .ok (.goto 39, 3) := by decide +kernel
theorem dL_law_975 : decode code 975 = .ok (.aload_n 1, 1) := by decide +kernel
theorem dL_law_976 : decode code 976 = .ok (.aload_n 0, 1) := by decide +kernel
theorem dL_law_977 : decode code 977 = .ok (.iload 4, 2) := by decide +kernel
theorem dL_law_979 : decode code 979 = .ok (.iconst 1, 1) := by decide +kernel
theorem dL_law_980 : decode code 980 = .ok (.iadd, 1) := by decide +kernel
theorem dL_law_981 : decode code 981 = .ok (.iaload, 1) := by decide +kernel
theorem dL_law_982 : decode code 982 = .ok (.invokevirtual 116, 3) := by decide +kernel
theorem dL_law_985 : decode code 985 = .ok (.aload_n 2, 1) := by decide +kernel
theorem dL_law_986 : decode code 986 = .ok (.aload_n 0, 1) := by decide +kernel
theorem dL_law_987 : decode code 987 = .ok (.iload 4, 2) := by decide +kernel
theorem dL_law_989 : decode code 989 = .ok (.iconst 1, 1) := by decide +kernel
theorem dL_law_990 : decode code 990 = .ok (.iadd, 1) := by decide +kernel
theorem dL_law_991 : decode code 991 = .ok (.iaload, 1) := by decide +kernel
theorem dL_law_992 : decode code 992 = .ok (.invokevirtual 119, 3) := by decide +kernel
theorem dL_law_995 : decode code 995 = .ok (.if_icmp .eq 16, 3) := by decide +kernel
theorem dL_law_998 : decode code 998 = .ok (.iconst 0, 1) := by decide +kernel
theorem dL_law_999 : decode code 999 = .ok (.ireturn, 1) := by decide +kernel
theorem dL_law_1000 : decode code 1000 = .ok (.aload_n 1, 1) := by decide +kernel
theorem dL_law_1001 : decode code 1001 = .ok (.invokevirtual 120, 3) := by decide +kernel
theorem dL_law_1004 : decode code 1004 = .ok (.aload_n 2, 1) := by decide +kernel
theorem dL_law_1005 : decode code 1005 = .ok (.invokevirtual 123, 3) := by decide +kernel
theorem dL_law_1008 : decode code 1008 = .ok (.goto 3, 3) := by decide +kernel
theorem dL_law_1011 : decode code 1011 = .ok (.iinc 4 5, 3) := by decide +kernel
theorem dL_law_1014 : decode code 1014 = .ok (.goto (-991), 3) := by decide +kernel
theorem dL_law_1017 : decode code 1017 = .ok (.iconst 1, 1) := by decide +kernel
theorem dL_law_1018 : decode code 1018 = .ok (.ireturn, 1) := by decide +kernel
theorem goodUP {c : Cond} (ws : List Cond) (ps : List Nat) (hp : ws = ps.filterMap (fun i => lw_tbl[i]?)) (h : ws.all goodWord = true) : GoodIn (c :: wU) ws := goodU (fun w hw => by
  rw [hp] at hw
  obtain ⟨i, -, hi⟩ := List.mem_filterMap.mp hw
  exact List.mem_of_getElem? hi) h
def cLw : Cond := .initialized RX3
abbrev mL_law : sMeth := (code, 7, RL, cLw :: wU, room_1, ret, "law", [])
/-- between two calls: class and reference stand for the same -/
def lI (G : sG) (ad : sAd) (M : sM) (α : sAl) : Prop := AI α ∧ cI G ad M α ∧ (∃ ρ : sMd, hMd G ad M ρ ∧ RI α ρ) ∧ ∃ w, lOut G M w
abbrev lvL (ad : sAd) (b : Nat) (i : Nat) : List (Option Value) := [some (.ref b), some (.ref (ad 0 0)), some (.ref (ad 12 0)), some (.ref (ad 26 0)), some (.int (nI i)), none, none]
theorem alR.v {α : sAl} {a b v : Int32} {k : Nat} (h : alR α a b k v) (hk : k = 0) : v = 0 ∨ v = 1 := by
  rcases h with ⟨h1, _⟩ | ⟨_, ja, jb, _, _, _, _, e⟩
  · omega
  · rw [e]
    cases decide (aM α ja = aM α jb)
    · exact Or.inl rfl
    · exact Or.inr rfl
