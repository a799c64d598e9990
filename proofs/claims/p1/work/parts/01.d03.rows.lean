theorem dX10_init_112 : decode cX10_init 112 = .ok (.putfield 52, 3) := by decide +kernel
theorem dX10_init_115 : decode cX10_init 115 = .ok (.aload_n 0, 1) := by decide +kernel
theorem dX10_init_116 : decode cX10_init 116 = .ok (.sipush 200, 3) := by decide +kernel
theorem dX10_init_119 : decode cX10_init 119 = .ok (.newarray .int, 2) := by decide +kernel
theorem dX10_init_121 : decode cX10_init 121 = .ok (.putfield 55, 3) := by decide +kernel
theorem dX10_init_124 : decode cX10_init 124 = .ok (.aload_n 0, 1) := by decide +kernel
theorem dX10_init_125 : decode cX10_init 125 = .ok (.sipush 200, 3) := by decide +kernel
theorem dX10_init_128 : decode cX10_init 128 = .ok (.newarray .int, 2) := by decide +kernel
theorem dX10_init_130 : decode cX10_init 130 = .ok (.putfield 58, 3) := by decide +kernel
theorem dX10_init_133 : decode cX10_init 133 = .ok (.aload_n 0, 1) := by decide +kernel
theorem dX10_init_134 : decode cX10_init 134 = .ok (.bipush 14, 2) := by decide +kernel
theorem dX10_init_136 : decode cX10_init 136 = .ok (.newarray .int, 2) := by decide +kernel
theorem dX10_init_138 : decode cX10_init 138 = .ok (.putfield 61, 3) := by decide +kernel
theorem dX10_init_141 : decode cX10_init 141 = .ok (.aload_n 0, 1) := by decide +kernel
theorem dX10_init_142 : decode cX10_init 142 = .ok (.bipush 14, 2) := by decide +kernel
theorem dX10_init_144 : decode cX10_init 144 = .ok (.newarray .int, 2) := by decide +kernel
theorem dX10_init_146 : decode cX10_init 146 = .ok (.putfield 64, 3) := by decide +kernel
theorem dX10_init_149 : decode cX10_init 149 = .ok (.aload_n 0, 1) := by decide +kernel
theorem dX10_init_150 : decode cX10_init 150 = .ok (.bipush 14, 2) := by decide +kernel
theorem dX10_init_152 : decode cX10_init 152 = .ok (.newarray .int, 2) := by decide +kernel
theorem dX10_init_154 : decode cX10_init 154 = .ok (.putfield 67, 3) := by decide +kernel
theorem dX10_init_157 : decode cX10_init 157 = .ok (.aload_n 0, 1) := by decide +kernel
theorem dX10_init_158 : decode cX10_init 158 = .ok (.bipush 14, 2) := by decide +kernel
theorem dX10_init_160 : decode cX10_init 160 = .ok (.newarray .int, 2) := by decide +kernel
theorem dX10_init_162 : decode cX10_init 162 = .ok (.putfield 70, 3) := by decide +kernel
theorem dX10_init_165 : decode cX10_init 165 = .ok (.aload_n 0, 1) := by decide +kernel
theorem dX10_init_166 : decode cX10_init 166 = .ok (.sipush 200, 3) := by decide +kernel
theorem dX10_init_169 : decode cX10_init 169 = .ok (.newarray .int, 2) := by decide +kernel
theorem dX10_init_171 : decode cX10_init 171 = .ok (.putfield 73, 3) := by decide +kernel
theorem dX10_init_174 : decode cX10_init 174 = .ok (.aload_n 0, 1) := by decide +kernel
theorem dX10_init_175 : decode cX10_init 175 = .ok (.sipush 200, 3) := by decide +kernel
theorem dX10_init_178 : decode cX10_init 178 = .ok (.newarray .int, 2) := by decide +kernel
theorem dX10_init_180 : decode cX10_init 180 = .ok (.putfield 76, 3) := by decide +kernel
theorem dX10_init_183 : decode cX10_init 183 = .ok (.aload_n 0, 1) := by decide +kernel
theorem dX10_init_184 : decode cX10_init 184 = .ok (.sipush 240, 3) := by decide +kernel
theorem dX10_init_187 : decode cX10_init 187 = .ok (.newarray .int, 2) := by decide +kernel
theorem dX10_init_189 : decode cX10_init 189 = .ok (.putfield 79, 3) := by decide +kernel
theorem dX10_init_192 : decode cX10_init 192 = .ok (.aload_n 0, 1) := by decide +kernel
theorem dX10_init_193 : decode cX10_init 193 = .ok (.sipush 240, 3) := by decide +kernel
theorem dX10_init_196 : decode cX10_init 196 = .ok (.newarray .int, 2) := by decide +kernel
theorem dX10_init_198 : decode cX10_init 198 = .ok (.putfield 82, 3) := by decide +kernel
theorem dX10_init_201 : decode cX10_init 201 = .ok (.aload_n 0, 1) := by decide +kernel
theorem dX10_init_202 : decode cX10_init 202 = .ok (.sipush 240, 3) := by decide +kernel
theorem dX10_init_205 : decode cX10_init 205 = .ok (.newarray .boolean, 2) := by decide +kernel
theorem dX10_init_207 : decode cX10_init 207 = .ok (.putfield 85, 3) := by decide +kernel
theorem dX10_init_210 : decode cX10_init 210 = .ok (.aload_n 0, 1) := by decide +kernel
theorem dX10_init_211 : decode cX10_init 211 = .ok (.sipush 2406, 3) := by decide +kernel
theorem dX10_init_214 : decode cX10_init 214 = .ok (.newarray .int, 2) := by decide +kernel
theorem dX10_init_216 : decode cX10_init 216 = .ok (.putfield 88, 3) := by decide +kernel
theorem dX10_init_219 : decode cX10_init 219 = .ok (.aload_n 0, 1) := by decide +kernel
theorem dX10_init_220 : decode cX10_init 220 = .ok (.bipush 10, 2) := by decide +kernel
theorem dX10_init_222 : decode cX10_init 222 = .ok (.newarray .int, 2) := by decide +kernel
theorem dX10_init_224 : decode cX10_init 224 = .ok (.putfield 91, 3) := by decide +kernel
theorem dX10_init_227 : decode cX10_init 227 = .ok (.aload_n 0, 1) := by decide +kernel
theorem dX10_init_228 : decode cX10_init 228 = .ok (.bipush 10, 2) := by decide +kernel
theorem dX10_init_230 : decode cX10_init 230 = .ok (.newarray .int, 2) := by decide +kernel
theorem dX10_init_232 : decode cX10_init 232 = .ok (.putfield 94, 3) := by decide +kernel
theorem dX10_init_235 : decode cX10_init 235 = .ok (.aload_n 0, 1) := by decide +kernel
theorem dX10_init_236 : decode cX10_init 236 = .ok (.bipush 6, 2) := by decide +kernel
theorem dX10_init_238 : decode cX10_init 238 = .ok (.newarray .int, 2) := by decide +kernel
theorem dX10_init_240 : decode cX10_init 240 = .ok (.putfield 97, 3) := by decide +kernel
theorem dX10_init_243 : decode cX10_init 243 = .ok (.aload_n 0, 1) := by decide +kernel
theorem dX10_init_244 : decode cX10_init 244 = .ok (.bipush 10, 2) := by decide +kernel
theorem dX10_init_246 : decode cX10_init 246 = .ok (.newarray .int, 2) := by decide +kernel
theorem dX10_init_248 : decode cX10_init 248 = .ok (.putfield 100, 3) := by decide +kernel
theorem dX10_init_251 : decode cX10_init 251 = .ok (.aload_n 0, 1) := by decide +kernel
theorem dX10_init_252 : decode cX10_init 252 = .ok (.sipush 1024, 3) := by decide +kernel
theorem dX10_init_255 : decode cX10_init 255 = .ok (.newarray .boolean, 2) := by decide +kernel
theorem dX10_init_257 : decode cX10_init 257 = .ok (.putfield 103, 3) := by decide +kernel
theorem dX10_init_260 : decode cX10_init 260 = .ok (.aload_n 0, 1) := by decide +kernel
theorem dX10_init_261 : decode cX10_init 261 = .ok (.sipush 1024, 3) := by decide +kernel
theorem dX10_init_264 : decode cX10_init 264 = .ok (.newarray .int, 2) := by decide +kernel
theorem dX10_init_266 : decode cX10_init 266 = .ok (.putfield 106, 3) := by decide +kernel
theorem dX10_init_269 : decode cX10_init 269 = .ok (.aload_n 0, 1) := by decide +kernel
theorem dX10_init_270 : decode cX10_init 270 = .ok (.bipush 10, 2) := by decide +kernel
theorem dX10_init_272 : decode cX10_init 272 = .ok (.newarray .int, 2) := by decide +kernel
theorem dX10_init_274 : decode cX10_init 274 = .ok (.putfield 109, 3) := by decide +kernel
theorem dX10_init_277 : decode cX10_init 277 = .ok (.aload_n 0, 1) := by decide +kernel
theorem dX10_init_278 : decode cX10_init 278 = .ok (.bipush 10, 2) := by decide +kernel
theorem dX10_init_280 : decode cX10_init 280 = .ok (.newarray .int, 2) := by decide +kernel
theorem dX10_init_282 : decode cX10_init 282 = .ok (.putfield 112, 3) := by decide +kernel
theorem dX10_init_285 : decode cX10_init 285 = .ok (.aload_n 0, 1) := by decide +kernel
theorem dX10_init_286 : decode cX10_init 286 = .ok (.bipush 54, 2) := by decide +kernel
theorem dX10_init_288 : decode cX10_init 288 = .ok (.newarray .int, 2) := by decide +kernel
theorem dX10_init_290 : decode cX10_init 290 = .ok (.putfield 115, 3) := by decide +kernel
theorem dX10_init_293 : decode cX10_init 293 = .ok (.aload_n 0, 1) := by decide +kernel
theorem dX10_init_294 : decode cX10_init 294 = .ok (.bipush 10, 2) := by decide +kernel
theorem dX10_init_296 : decode cX10_init 296 = .ok (.newarray .int, 2) := by decide +kernel
theorem dX10_init_298 : decode cX10_init 298 = .ok (.putfield 118, 3) := by decide +kernel
theorem dX10_init_301 : decode cX10_init 301 = .ok (.aload_n 0, 1) := by decide +kernel
theorem dX10_init_302 : decode cX10_init 302 = .ok (.bipush 6, 2) := by decide +kernel
theorem dX10_init_304 : decode cX10_init 304 = .ok (.newarray .int, 2) := by decide +kernel
theorem dX10_init_306 : decode cX10_init 306 = .ok (.putfield 121, 3) := by decide +kernel
theorem dX10_init_309 : decode cX10_init 309 = .ok (.aload_n 0, 1) := by decide +kernel
theorem dX10_init_310 : decode cX10_init 310 = .ok (.bipush 10, 2) := by decide +kernel
theorem dX10_init_312 : decode cX10_init 312 = .ok (.newarray .int, 2) := by decide +kernel
theorem dX10_init_314 : decode cX10_init 314 = .ok (.putfield 124, 3) := by decide +kernel
theorem dX10_init_317 : decode cX10_init 317 = .ok (.aload_n 0, 1) := by decide +kernel
theorem dX10_init_318 : decode cX10_init 318 = .ok (.bipush 11, 2) := by decide +kernel
theorem dX10_init_320 : decode cX10_init 320 = .ok (.newarray .int, 2) := by decide +kernel
theorem dX10_init_322 : decode cX10_init 322 = .ok (.putfield 127, 3) := by decide +kernel
theorem dX10_init_325 : decode cX10_init 325 = .ok (.aload_n 0, 1) := by decide +kernel
theorem dX10_init_326 : decode cX10_init 326 = .ok (.ldc 130, 2) := by decide +kernel
theorem dX10_init_328 : decode cX10_init 328 = .ok (.newarray .boolean, 2) := by decide +kernel
theorem dX10_init_330 : decode cX10_init 330 = .ok (.putfield 131, 3) := by decide +kernel
theorem dX10_init_333 : decode cX10_init 333 = .ok (.aload_n 0, 1) := by decide +kernel
theorem dX10_init_334 : decode cX10_init 334 = .ok (.ldc 130, 2) := by decide +kernel
theorem dX10_init_336 : decode cX10_init 336 = .ok (.newarray .int, 2) := by decide +kernel
theorem dX10_init_338 : decode cX10_init 338 = .ok (.putfield 134, 3) := by decide +kernel
theorem dX10_init_341 : decode cX10_init 341 = .ok (.aload_n 0, 1) := by decide +kernel
theorem dX10_init_342 : decode cX10_init 342 = .ok (.ldc 137, 2) := by decide +kernel
theorem dX10_init_344 : decode cX10_init 344 = .ok (.newarray .int, 2) := by decide +kernel
theorem dX10_init_346 : decode cX10_init 346 = .ok (.putfield 138, 3) := by decide +kernel
theorem dX10_init_349 : decode cX10_init 349 = .ok (.aload_n 0, 1) := by decide +kernel
theorem dX10_init_350 : decode cX10_init 350 = .ok (.ldc 137, 2) := by decide +kernel
theorem dX10_init_352 : decode cX10_init 352 = .ok (.newarray .int, 2) := by decide +kernel
theorem dX10_init_354 : decode cX10_init 354 = .ok (.putfield 141, 3) := by decide +kernel
theorem dX10_init_357 : decode cX10_init 357 = .ok (.aload_n 0, 1) := by decide +kernel
theorem dX10_init_358 : decode cX10_init 358 = .ok (.bipush 10, 2) := by decide +kernel
theorem dX10_init_360 : decode cX10_init 360 = .ok (.newarray .int, 2) := by decide +kernel
theorem dX10_init_362 : decode cX10_init 362 = .ok (.putfield 144, 3) := by decide +kernel
theorem dX10_init_365 : decode cX10_init 365 = .ok (.aload_n 0, 1) := by decide +kernel
theorem dX10_init_366 : decode cX10_init 366 = .ok (.bipush 20, 2) := by decide +kernel
theorem dX10_init_368 : decode cX10_init 368 = .ok (.newarray .int, 2) := by decide +kernel
theorem dX10_init_370 : decode cX10_init 370 = .ok (.putfield 147, 3) := by decide +kernel
theorem dX10_init_373 : decode cX10_init 373 = .ok (.iconst 0, 1) := by decide +kernel
theorem dX10_init_374 : decode cX10_init 374 = .ok (.istore_n 1, 1) := by decide +kernel
theorem dX10_init_375 : decode cX10_init 375 = .ok (.iload_n 1, 1) := by decide +kernel
theorem dX10_init_376 : decode cX10_init 376 = .ok (.bipush 9, 2) := by decide +kernel
theorem dX10_init_378 : decode cX10_init 378 = .ok (.if_icmp .ge 16, 3) := by decide +kernel
theorem dX10_init_381 : decode cX10_init 381 = .ok (.aload_n 0, 1) := by decide +kernel
theorem dX10_init_382 : decode cX10_init 382 = .ok (.getfield 31, 3) := by decide +kernel
theorem dX10_init_385 : decode cX10_init 385 = .ok (.iload_n 1, 1) := by decide +kernel
theorem dX10_init_386 : decode cX10_init 386 = .ok (.iconst (-1), 1) := by decide +kernel
theorem dX10_init_387 : decode cX10_init 387 = .ok (.iastore, 1) := by decide +kernel
theorem dX10_init_388 : decode cX10_init 388 = .ok (.iinc 1 1, 3) := by decide +kernel
theorem dX10_init_391 : decode cX10_init 391 = .ok (.goto (-16), 3) := by decide +kernel
theorem dX10_init_394 : decode cX10_init 394 = .ok (.return_, 1) := by decide +kernel
theorem dX10_lies_0 : decode cX10_lies 0 = .ok (.lload_n 0, 1) := by decide +kernel
theorem dX10_lies_1 : decode cX10_lies 1 = .ok (.lload_n 2, 1) := by decide +kernel
theorem dX10_lies_2 : decode cX10_lies 2 = .ok (.lcmp, 1) := by decide +kernel
theorem dX10_lies_3 : decode cX10_lies 3 = .ok (.ifCond .lt 14, 3) := by decide +kernel
theorem dX10_lies_6 : decode cX10_lies 6 = .ok (.lload_n 0, 1) := by decide +kernel
theorem dX10_lies_7 : decode cX10_lies 7 = .ok (.lload 4, 2) := by decide +kernel
theorem dX10_lies_9 : decode cX10_lies 9 = .ok (.lcmp, 1) := by decide +kernel
theorem dX10_lies_10 : decode cX10_lies 10 = .ok (.ifCond .gt 7, 3) := by decide +kernel
theorem dX10_lies_13 : decode cX10_lies 13 = .ok (.iconst 1, 1) := by decide +kernel
theorem dX10_lies_14 : decode cX10_lies 14 = .ok (.goto 4, 3) := by decide +kernel
theorem dX10_lies_17 : decode cX10_lies 17 = .ok (.iconst 0, 1) := by decide +kernel
theorem dX10_lies_18 : decode cX10_lies 18 = .ok (.ireturn, 1) := by decide +kernel
set_option maxRecDepth 100000 in
theorem ggX10_isWalker_X10_lies : GoodIn wsX10_isWalker wsX10_lies := goodIn_r _ [5] rfl (by decide +kernel)
set_option maxRecDepth 100000 in
theorem gX10_isWalker_X10_lies : GoodIn wsX10_isWalker (va_wsS RX10 153 yX10_lies wsX10_lies) := goodIn_app (goodIn_r _ [2, 3, 4] rfl (by decide +kernel)) ggX10_isWalker_X10_lies
theorem dX10_isWalker_0 : decode cX10_isWalker 0 = .ok (.iload_n 1, 1) := by decide +kernel
theorem dX10_isWalker_1 : decode cX10_isWalker 1 = .ok (.i2l, 1) := by decide +kernel
theorem dX10_isWalker_2 : decode cX10_isWalker 2 = .ok (.lconst 0, 1) := by decide +kernel
theorem dX10_isWalker_3 : decode cX10_isWalker 3 = .ok (.aload_n 0, 1) := by decide +kernel
theorem dX10_isWalker_4 : decode cX10_isWalker 4 = .ok (.getfield 150, 3) := by decide +kernel
theorem dX10_isWalker_7 : decode cX10_isWalker 7 = .ok (.iconst 1, 1) := by decide +kernel
theorem dX10_isWalker_8 : decode cX10_isWalker 8 = .ok (.isub, 1) := by decide +kernel
theorem dX10_isWalker_9 : decode cX10_isWalker 9 = .ok (.i2l, 1) := by decide +kernel
theorem dX10_isWalker_10 : decode cX10_isWalker 10 = .ok (.invokestatic 153, 3) := by decide +kernel
theorem dX10_isWalker_13 : decode cX10_isWalker 13 = .ok (.ireturn, 1) := by decide +kernel
set_option maxRecDepth 100000 in
theorem ggX10_isLoad_X10_lies : GoodIn wsX10_isLoad wsX10_lies := goodIn_r _ [5] rfl (by decide +kernel)
set_option maxRecDepth 100000 in
theorem gX10_isLoad_X10_lies : GoodIn wsX10_isLoad (va_wsS RX10 153 yX10_lies wsX10_lies) := goodIn_app (goodIn_r _ [2, 3, 4] rfl (by decide +kernel)) ggX10_isLoad_X10_lies
theorem dX10_isLoad_0 : decode cX10_isLoad 0 = .ok (.iload_n 1, 1) := by decide +kernel
theorem dX10_isLoad_1 : decode cX10_isLoad 1 = .ok (.i2l, 1) := by decide +kernel
theorem dX10_isLoad_2 : decode cX10_isLoad 2 = .ok (.lconst 0, 1) := by decide +kernel
theorem dX10_isLoad_3 : decode cX10_isLoad 3 = .ok (.aload_n 0, 1) := by decide +kernel
theorem dX10_isLoad_4 : decode cX10_isLoad 4 = .ok (.getfield 157, 3) := by decide +kernel
theorem dX10_isLoad_7 : decode cX10_isLoad 7 = .ok (.iconst 1, 1) := by decide +kernel
theorem dX10_isLoad_8 : decode cX10_isLoad 8 = .ok (.isub, 1) := by decide +kernel
theorem dX10_isLoad_9 : decode cX10_isLoad 9 = .ok (.i2l, 1) := by decide +kernel
theorem dX10_isLoad_10 : decode cX10_isLoad 10 = .ok (.invokestatic 153, 3) := by decide +kernel
theorem dX10_isLoad_13 : decode cX10_isLoad 13 = .ok (.ireturn, 1) := by decide +kernel
set_option maxRecDepth 100000 in
theorem ggX10_isPiece_X10_lies : GoodIn wsX10_isPiece wsX10_lies := goodIn_r _ [5] rfl (by decide +kernel)
set_option maxRecDepth 100000 in
theorem gX10_isPiece_X10_lies : GoodIn wsX10_isPiece (va_wsS RX10 153 yX10_lies wsX10_lies) := goodIn_app (goodIn_r _ [2, 3, 4] rfl (by decide +kernel)) ggX10_isPiece_X10_lies
theorem dX10_isPiece_0 : decode cX10_isPiece 0 = .ok (.iload_n 1, 1) := by decide +kernel
theorem dX10_isPiece_1 : decode cX10_isPiece 1 = .ok (.i2l, 1) := by decide +kernel
theorem dX10_isPiece_2 : decode cX10_isPiece 2 = .ok (.lconst 0, 1) := by decide +kernel
theorem dX10_isPiece_3 : decode cX10_isPiece 3 = .ok (.aload_n 0, 1) := by decide +kernel
theorem dX10_isPiece_4 : decode cX10_isPiece 4 = .ok (.getfield 160, 3) := by decide +kernel
theorem dX10_isPiece_7 : decode cX10_isPiece 7 = .ok (.iconst 1, 1) := by decide +kernel
theorem dX10_isPiece_8 : decode cX10_isPiece 8 = .ok (.isub, 1) := by decide +kernel
theorem dX10_isPiece_9 : decode cX10_isPiece 9 = .ok (.i2l, 1) := by decide +kernel
theorem dX10_isPiece_10 : decode cX10_isPiece 10 = .ok (.invokestatic 153, 3) := by decide +kernel
theorem dX10_isPiece_13 : decode cX10_isPiece 13 = .ok (.ireturn, 1) := by decide +kernel
set_option maxRecDepth 100000 in
theorem ggX10_walker_X10_lies : GoodIn wsX10_walker wsX10_lies := goodIn_r _ [11] rfl (by decide +kernel)
set_option maxRecDepth 100000 in
theorem gX10_walker_X10_lies : GoodIn wsX10_walker (va_wsS RX10 153 yX10_lies wsX10_lies) := goodIn_app (goodIn_r _ [8, 9, 10] rfl (by decide +kernel)) ggX10_walker_X10_lies
theorem dX10_walker_0 : decode cX10_walker 0 = .ok (.aload_n 0, 1) := by decide +kernel
theorem dX10_walker_1 : decode cX10_walker 1 = .ok (.getfield 150, 3) := by decide +kernel
theorem dX10_walker_4 : decode cX10_walker 4 = .ok (.bipush 6, 2) := by decide +kernel
theorem dX10_walker_6 : decode cX10_walker 6 = .ok (.if_icmp .eq 29, 3) := by decide +kernel
theorem dX10_walker_9 : decode cX10_walker 9 = .ok (.iload_n 1, 1) := by decide +kernel
theorem dX10_walker_10 : decode cX10_walker 10 = .ok (.i2l, 1) := by decide +kernel
theorem dX10_walker_11 : decode cX10_walker 11 = .ok (.lconst 0, 1) := by decide +kernel
theorem dX10_walker_12 : decode cX10_walker 12 = .ok (.ldc2_w 163, 3) := by decide +kernel
theorem dX10_walker_15 : decode cX10_walker 15 = .ok (.invokestatic 153, 3) := by decide +kernel
theorem dX10_walker_18 : decode cX10_walker 18 = .ok (.ifCond .eq 17, 3) := by decide +kernel
theorem dX10_walker_21 : decode cX10_walker 21 = .ok (.iload_n 2, 1) := by decide +kernel
theorem dX10_walker_22 : decode cX10_walker 22 = .ok (.i2l, 1) := by decide +kernel
theorem dX10_walker_23 : decode cX10_walker 23 = .ok (.ldc2_w 165, 3) := by decide +kernel
theorem dX10_walker_26 : decode cX10_walker 26 = .ok (.ldc2_w 167, 3) := by decide +kernel
theorem dX10_walker_29 : decode cX10_walker 29 = .ok (.invokestatic 153, 3) := by decide +kernel
theorem dX10_walker_32 : decode cX10_walker 32 = .ok (.ifCond .ne 5, 3) := by decide +kernel
theorem dX10_walker_35 : decode cX10_walker 35 = .ok (.iconst (-1), 1) := by decide +kernel
theorem dX10_walker_36 : decode cX10_walker 36 = .ok (.ireturn, 1) := by decide +kernel
theorem dX10_walker_37 : decode cX10_walker 37 = .ok (.aload_n 0, 1) := by decide +kernel
theorem dX10_walker_38 : decode cX10_walker 38 = .ok (.getfield 17, 3) := by decide +kernel
theorem dX10_walker_41 : decode cX10_walker 41 = .ok (.aload_n 0, 1) := by decide +kernel
theorem dX10_walker_42 : decode cX10_walker 42 = .ok (.getfield 150, 3) := by decide +kernel
theorem dX10_walker_45 : decode cX10_walker 45 = .ok (.iload_n 1, 1) := by decide +kernel
theorem dX10_walker_46 : decode cX10_walker 46 = .ok (.iastore, 1) := by decide +kernel
theorem dX10_walker_47 : decode cX10_walker 47 = .ok (.aload_n 0, 1) := by decide +kernel
theorem dX10_walker_48 : decode cX10_walker 48 = .ok (.getfield 21, 3) := by decide +kernel
theorem dX10_walker_51 : decode cX10_walker 51 = .ok (.aload_n 0, 1) := by decide +kernel
theorem dX10_walker_52 : decode cX10_walker 52 = .ok (.getfield 150, 3) := by decide +kernel
theorem dX10_walker_55 : decode cX10_walker 55 = .ok (.iload_n 2, 1) := by decide +kernel
theorem dX10_walker_56 : decode cX10_walker 56 = .ok (.iastore, 1) := by decide +kernel
theorem dX10_walker_57 : decode cX10_walker 57 = .ok (.aload_n 0, 1) := by decide +kernel
theorem dX10_walker_58 : decode cX10_walker 58 = .ok (.dup, 1) := by decide +kernel
theorem dX10_walker_59 : decode cX10_walker 59 = .ok (.getfield 150, 3) := by decide +kernel
theorem dX10_walker_62 : decode cX10_walker 62 = .ok (.iconst 1, 1) := by decide +kernel
theorem dX10_walker_63 : decode cX10_walker 63 = .ok (.iadd, 1) := by decide +kernel
theorem dX10_walker_64 : decode cX10_walker 64 = .ok (.putfield 150, 3) := by decide +kernel
theorem dX10_walker_67 : decode cX10_walker 67 = .ok (.aload_n 0, 1) := by decide +kernel
theorem dX10_walker_68 : decode cX10_walker 68 = .ok (.iconst 0, 1) := by decide +kernel
theorem dX10_walker_69 : decode cX10_walker 69 = .ok (.putfield 169, 3) := by decide +kernel
theorem dX10_walker_72 : decode cX10_walker 72 = .ok (.aload_n 0, 1) := by decide +kernel
theorem dX10_walker_73 : decode cX10_walker 73 = .ok (.getfield 150, 3) := by decide +kernel
theorem dX10_walker_76 : decode cX10_walker 76 = .ok (.iconst 1, 1) := by decide +kernel
theorem dX10_walker_77 : decode cX10_walker 77 = .ok (.isub, 1) := by decide +kernel
theorem dX10_walker_78 : decode cX10_walker 78 = .ok (.ireturn, 1) := by decide +kernel
set_option maxRecDepth 100000 in
theorem ggX10_load_X10_lies : GoodIn wsX10_load wsX10_lies := goodIn_r _ [12] rfl (by decide +kernel)
set_option maxRecDepth 100000 in
theorem gX10_load_X10_lies : GoodIn wsX10_load (va_wsS RX10 153 yX10_lies wsX10_lies) := goodIn_app (goodIn_r _ [9, 10, 11] rfl (by decide +kernel)) ggX10_load_X10_lies
set_option maxRecDepth 100000 in
theorem ggX10_load_X10_isWalker : GoodIn wsX10_load wsX10_isWalker := goodIn_r _ [16, 17, 9, 10, 11, 12, 18, 19, 20, 21, 22, 23, 24, 25, 26, 27, 28, 29, 30, 31, 32, 33, 34, 35, 36, 37, 38, 39, 40, 41, 42, 43, 44, 45, 46, 47, 48, 49, 50, 51, 52, 53, 54, 55, 56, 57, 58, 59, 60, 61, 62, 63, 64, 65, 66, 67, 68, 69, 70, 71, 72, 73, 74, 75, 76, 77, 78, 79, 80, 81, 82, 83, 84, 85, 86, 87, 88, 89, 90, 91] rfl (by decide +kernel)
set_option maxRecDepth 100000 in
theorem gX10_load_X10_isWalker : GoodIn wsX10_load (wsV RX10 175 RX10 yX10_isWalker wsX10_isWalker) := goodIn_app (goodIn_r _ [13, 14, 15, 11] rfl (by decide +kernel)) ggX10_load_X10_isWalker
theorem dX10_load_0 : decode cX10_load 0 = .ok (.aload_n 0, 1) := by decide +kernel
theorem dX10_load_1 : decode cX10_load 1 = .ok (.getfield 157, 3) := by decide +kernel
theorem dX10_load_4 : decode cX10_load 4 = .ok (.bipush 9, 2) := by decide +kernel
theorem dX10_load_6 : decode cX10_load 6 = .ok (.if_icmp .eq 40, 3) := by decide +kernel
theorem dX10_load_9 : decode cX10_load 9 = .ok (.iload_n 1, 1) := by decide +kernel
theorem dX10_load_10 : decode cX10_load 10 = .ok (.i2l, 1) := by decide +kernel
theorem dX10_load_11 : decode cX10_load 11 = .ok (.lconst 1, 1) := by decide +kernel
theorem dX10_load_12 : decode cX10_load 12 = .ok (.ldc2_w 173, 3) := by decide +kernel
theorem dX10_load_15 : decode cX10_load 15 = .ok (.invokestatic 153, 3) := by decide +kernel
theorem dX10_load_18 : decode cX10_load 18 = .ok (.ifCond .eq 28, 3) := by decide +kernel
theorem dX10_load_21 : decode cX10_load 21 = .ok (.iload_n 2, 1) := by decide +kernel
theorem dX10_load_22 : decode cX10_load 22 = .ok (.iconst (-1), 1) := by decide +kernel
theorem dX10_load_23 : decode cX10_load 23 = .ok (.if_icmp .eq 11, 3) := by decide +kernel
theorem dX10_load_26 : decode cX10_load 26 = .ok (.aload_n 0, 1) := by decide +kernel
theorem dX10_load_27 : decode cX10_load 27 = .ok (.iload_n 2, 1) := by decide +kernel
theorem dX10_load_28 : decode cX10_load 28 = .ok (.invokevirtual 175, 3) := by decide +kernel
theorem dX10_load_31 : decode cX10_load 31 = .ok (.ifCond .eq 15, 3) := by decide +kernel
theorem dX10_load_34 : decode cX10_load 34 = .ok (.iload_n 3, 1) := by decide +kernel
theorem dX10_load_35 : decode cX10_load 35 = .ok (.i2l, 1) := by decide +kernel
theorem dX10_load_36 : decode cX10_load 36 = .ok (.lconst 0, 1) := by decide +kernel
theorem dX10_load_37 : decode cX10_load 37 = .ok (.ldc2_w 165, 3) := by decide +kernel
theorem dX10_load_40 : decode cX10_load 40 = .ok (.invokestatic 153, 3) := by decide +kernel
theorem dX10_load_43 : decode cX10_load 43 = .ok (.ifCond .ne 5, 3) := by decide +kernel
theorem dX10_load_46 : decode cX10_load 46 = .ok (.iconst (-1), 1) := by decide +kernel
theorem dX10_load_47 : decode cX10_load 47 = .ok (.ireturn, 1) := by decide +kernel
theorem dX10_load_48 : decode cX10_load 48 = .ok (.aload_n 0, 1) := by decide +kernel
theorem dX10_load_49 : decode cX10_load 49 = .ok (.getfield 28, 3) := by decide +kernel
theorem dX10_load_52 : decode cX10_load 52 = .ok (.aload_n 0, 1) := by decide +kernel
theorem dX10_load_53 : decode cX10_load 53 = .ok (.getfield 157, 3) := by decide +kernel
theorem dX10_load_56 : decode cX10_load 56 = .ok (.iload_n 1, 1) := by decide +kernel
theorem dX10_load_57 : decode cX10_load 57 = .ok (.iastore, 1) := by decide +kernel
theorem dX10_load_58 : decode cX10_load 58 = .ok (.aload_n 0, 1) := by decide +kernel
theorem dX10_load_59 : decode cX10_load 59 = .ok (.getfield 31, 3) := by decide +kernel
theorem dX10_load_62 : decode cX10_load 62 = .ok (.aload_n 0, 1) := by decide +kernel
theorem dX10_load_63 : decode cX10_load 63 = .ok (.getfield 157, 3) := by decide +kernel
theorem dX10_load_66 : decode cX10_load 66 = .ok (.iload_n 2, 1) := by decide +kernel
theorem dX10_load_67 : decode cX10_load 67 = .ok (.iastore, 1) := by decide +kernel
theorem dX10_load_68 : decode cX10_load 68 = .ok (.aload_n 0, 1) := by decide +kernel
theorem dX10_load_69 : decode cX10_load 69 = .ok (.getfield 34, 3) := by decide +kernel
theorem dX10_load_72 : decode cX10_load 72 = .ok (.aload_n 0, 1) := by decide +kernel
theorem dX10_load_73 : decode cX10_load 73 = .ok (.getfield 157, 3) := by decide +kernel
theorem dX10_load_76 : decode cX10_load 76 = .ok (.iload_n 3, 1) := by decide +kernel
theorem dX10_load_77 : decode cX10_load 77 = .ok (.iastore, 1) := by decide +kernel
theorem dX10_load_78 : decode cX10_load 78 = .ok (.aload_n 0, 1) := by decide +kernel
theorem dX10_load_79 : decode cX10_load 79 = .ok (.dup, 1) := by decide +kernel
theorem dX10_load_80 : decode cX10_load 80 = .ok (.getfield 157, 3) := by decide +kernel
theorem dX10_load_83 : decode cX10_load 83 = .ok (.iconst 1, 1) := by decide +kernel
theorem dX10_load_84 : decode cX10_load 84 = .ok (.iadd, 1) := by decide +kernel
theorem dX10_load_85 : decode cX10_load 85 = .ok (.putfield 157, 3) := by decide +kernel
theorem dX10_load_88 : decode cX10_load 88 = .ok (.aload_n 0, 1) := by decide +kernel
theorem dX10_load_89 : decode cX10_load 89 = .ok (.iconst 0, 1) := by decide +kernel
theorem dX10_load_90 : decode cX10_load 90 = .ok (.putfield 179, 3) := by decide +kernel
theorem dX10_load_93 : decode cX10_load 93 = .ok (.aload_n 0, 1) := by decide +kernel
theorem dX10_load_94 : decode cX10_load 94 = .ok (.iconst 0, 1) := by decide +kernel
theorem dX10_load_95 : decode cX10_load 95 = .ok (.putfield 169, 3) := by decide +kernel
theorem dX10_load_98 : decode cX10_load 98 = .ok (.aload_n 0, 1) := by decide +kernel
theorem dX10_load_99 : decode cX10_load 99 = .ok (.getfield 157, 3) := by decide +kernel
theorem dX10_load_102 : decode cX10_load 102 = .ok (.iconst 1, 1) := by decide +kernel
theorem dX10_load_103 : decode cX10_load 103 = .ok (.isub, 1) := by decide +kernel
theorem dX10_load_104 : decode cX10_load 104 = .ok (.ireturn, 1) := by decide +kernel
set_option maxRecDepth 100000 in
theorem ggX10_piece_X10_lies : GoodIn wsX10_piece wsX10_lies := goodIn_r _ [11] rfl (by decide +kernel)
set_option maxRecDepth 100000 in
theorem gX10_piece_X10_lies : GoodIn wsX10_piece (va_wsS RX10 153 yX10_lies wsX10_lies) := goodIn_app (goodIn_r _ [8, 9, 10] rfl (by decide +kernel)) ggX10_piece_X10_lies
theorem dX10_piece_0 : decode cX10_piece 0 = .ok (.aload_n 0, 1) := by decide +kernel
theorem dX10_piece_1 : decode cX10_piece 1 = .ok (.getfield 160, 3) := by decide +kernel
theorem dX10_piece_4 : decode cX10_piece 4 = .ok (.bipush 10, 2) := by decide +kernel
theorem dX10_piece_6 : decode cX10_piece 6 = .ok (.if_icmp .eq 29, 3) := by decide +kernel
theorem dX10_piece_9 : decode cX10_piece 9 = .ok (.iload_n 1, 1) := by decide +kernel
theorem dX10_piece_10 : decode cX10_piece 10 = .ok (.i2l, 1) := by decide +kernel
theorem dX10_piece_11 : decode cX10_piece 11 = .ok (.lconst 1, 1) := by decide +kernel
theorem dX10_piece_12 : decode cX10_piece 12 = .ok (.ldc2_w 165, 3) := by decide +kernel
theorem dX10_piece_15 : decode cX10_piece 15 = .ok (.invokestatic 153, 3) := by decide +kernel
theorem dX10_piece_18 : decode cX10_piece 18 = .ok (.ifCond .eq 17, 3) := by decide +kernel
theorem dX10_piece_21 : decode cX10_piece 21 = .ok (.iload_n 2, 1) := by decide +kernel
theorem dX10_piece_22 : decode cX10_piece 22 = .ok (.i2l, 1) := by decide +kernel
theorem dX10_piece_23 : decode cX10_piece 23 = .ok (.ldc2_w 182, 3) := by decide +kernel
theorem dX10_piece_26 : decode cX10_piece 26 = .ok (.ldc2_w 163, 3) := by decide +kernel
theorem dX10_piece_29 : decode cX10_piece 29 = .ok (.invokestatic 153, 3) := by decide +kernel
theorem dX10_piece_32 : decode cX10_piece 32 = .ok (.ifCond .ne 5, 3) := by decide +kernel
theorem dX10_piece_35 : decode cX10_piece 35 = .ok (.iconst (-1), 1) := by decide +kernel
theorem dX10_piece_36 : decode cX10_piece 36 = .ok (.ireturn, 1) := by decide +kernel
theorem dX10_piece_37 : decode cX10_piece 37 = .ok (.aload_n 0, 1) := by decide +kernel
theorem dX10_piece_38 : decode cX10_piece 38 = .ok (.getfield 37, 3) := by decide +kernel
theorem dX10_piece_41 : decode cX10_piece 41 = .ok (.aload_n 0, 1) := by decide +kernel
theorem dX10_piece_42 : decode cX10_piece 42 = .ok (.getfield 160, 3) := by decide +kernel
theorem dX10_piece_45 : decode cX10_piece 45 = .ok (.iload_n 1, 1) := by decide +kernel
theorem dX10_piece_46 : decode cX10_piece 46 = .ok (.iastore, 1) := by decide +kernel
theorem dX10_piece_47 : decode cX10_piece 47 = .ok (.aload_n 0, 1) := by decide +kernel
theorem dX10_piece_48 : decode cX10_piece 48 = .ok (.getfield 40, 3) := by decide +kernel
theorem dX10_piece_51 : decode cX10_piece 51 = .ok (.aload_n 0, 1) := by decide +kernel
theorem dX10_piece_52 : decode cX10_piece 52 = .ok (.getfield 160, 3) := by decide +kernel
theorem dX10_piece_55 : decode cX10_piece 55 = .ok (.iload_n 2, 1) := by decide +kernel
theorem dX10_piece_56 : decode cX10_piece 56 = .ok (.iastore, 1) := by decide +kernel
theorem dX10_piece_57 : decode cX10_piece 57 = .ok (.aload_n 0, 1) := by decide +kernel
theorem dX10_piece_58 : decode cX10_piece 58 = .ok (.dup, 1) := by decide +kernel
theorem dX10_piece_59 : decode cX10_piece 59 = .ok (.getfield 160, 3) := by decide +kernel
theorem dX10_piece_62 : decode cX10_piece 62 = .ok (.iconst 1, 1) := by decide +kernel
theorem dX10_piece_63 : decode cX10_piece 63 = .ok (.iadd, 1) := by decide +kernel
theorem dX10_piece_64 : decode cX10_piece 64 = .ok (.putfield 160, 3) := by decide +kernel
theorem dX10_piece_67 : decode cX10_piece 67 = .ok (.aload_n 0, 1) := by decide +kernel
theorem dX10_piece_68 : decode cX10_piece 68 = .ok (.iconst 0, 1) := by decide +kernel
theorem dX10_piece_69 : decode cX10_piece 69 = .ok (.putfield 169, 3) := by decide +kernel
theorem dX10_piece_72 : decode cX10_piece 72 = .ok (.aload_n 0, 1) := by decide +kernel
theorem dX10_piece_73 : decode cX10_piece 73 = .ok (.getfield 160, 3) := by decide +kernel
theorem dX10_piece_76 : decode cX10_piece 76 = .ok (.iconst 1, 1) := by decide +kernel
theorem dX10_piece_77 : decode cX10_piece 77 = .ok (.isub, 1) := by decide +kernel
theorem dX10_piece_78 : decode cX10_piece 78 = .ok (.ireturn, 1) := by decide +kernel
set_option maxRecDepth 100000 in
theorem ggX10_lame_X10_isWalker : GoodIn wsX10_lame wsX10_isWalker := goodIn_r _ [6, 7, 8, 9, 5, 10, 11, 12, 13, 14, 15, 16, 17, 18, 19, 20, 21, 22, 23, 24, 25, 26, 27, 28, 29, 30, 31, 32, 33, 34, 35, 36, 37, 38, 39, 40, 41, 42, 43, 44, 45, 46, 47, 48, 49, 50, 51, 52, 53, 54, 55, 56, 57, 58, 59, 60, 61, 62, 63, 64, 65, 66, 67, 68, 69, 70, 71, 72, 73, 74, 75, 76, 77, 78, 79, 80, 81, 82, 83, 84] rfl (by decide +kernel)
set_option maxRecDepth 100000 in
theorem gX10_lame_X10_isWalker : GoodIn wsX10_lame (wsV RX10 175 RX10 yX10_isWalker wsX10_isWalker) := goodIn_app (goodIn_r _ [2, 3, 4, 5] rfl (by decide +kernel)) ggX10_lame_X10_isWalker
theorem dX10_lame_0 : decode cX10_lame 0 = .ok (.aload_n 0, 1) := by decide +kernel
theorem dX10_lame_1 : decode cX10_lame 1 = .ok (.iload_n 1, 1) := by decide +kernel
theorem dX10_lame_2 : decode cX10_lame 2 = .ok (.invokevirtual 175, 3) := by decide +kernel
theorem dX10_lame_5 : decode cX10_lame 5 = .ok (.ifCond .eq 13, 3) := by decide +kernel
theorem dX10_lame_18 : decode cX10_lame 18 = .ok (.iconst 0, 1) := by decide +kernel
theorem dX10_lame_19 : decode cX10_lame 19 = .ok (.ireturn, 1) := by decide +kernel
set_option maxRecDepth 100000 in
theorem ggX10_change_X10_lies : GoodIn wsX10_change wsX10_lies := goodIn_r _ [6] rfl (by decide +kernel)
set_option maxRecDepth 100000 in
theorem gX10_change_X10_lies : GoodIn wsX10_change (va_wsS RX10 153 yX10_lies wsX10_lies) := goodIn_app (goodIn_r _ [3, 4, 5] rfl (by decide +kernel)) ggX10_change_X10_lies
theorem dX10_change_0 : decode cX10_change 0 = .ok (.iload_n 1, 1) := by decide +kernel
theorem dX10_change_1 : decode cX10_change 1 = .ok (.i2l, 1) := by decide +kernel
theorem dX10_change_2 : decode cX10_change 2 = .ok (.lconst 0, 1) := by decide +kernel
theorem dX10_change_3 : decode cX10_change 3 = .ok (.ldc2_w 173, 3) := by decide +kernel
theorem dX10_change_6 : decode cX10_change 6 = .ok (.invokestatic 153, 3) := by decide +kernel
theorem dX10_change_9 : decode cX10_change 9 = .ok (.ifCond .ne 5, 3) := by decide +kernel
theorem dX10_change_12 : decode cX10_change 12 = .ok (.iconst 0, 1) := by decide +kernel
theorem dX10_change_13 : decode cX10_change 13 = .ok (.ireturn, 1) := by decide +kernel
theorem dX10_change_14 : decode cX10_change 14 = .ok (.aload_n 0, 1) := by decide +kernel
theorem dX10_change_15 : decode cX10_change 15 = .ok (.iload_n 1, 1) := by decide +kernel
theorem dX10_change_16 : decode cX10_change 16 = .ok (.putfield 13, 3) := by decide +kernel
theorem dX10_change_19 : decode cX10_change 19 = .ok (.iconst 1, 1) := by decide +kernel
theorem dX10_change_20 : decode cX10_change 20 = .ok (.ireturn, 1) := by decide +kernel
theorem dX10_push_0 : decode cX10_push 0 = .ok (.bipush 24, 2) := by decide +kernel
theorem dX10_push_2 : decode cX10_push 2 = .ok (.istore_n 2, 1) := by decide +kernel
theorem dX10_push_3 : decode cX10_push 3 = .ok (.iload_n 2, 1) := by decide +kernel
theorem dX10_push_4 : decode cX10_push 4 = .ok (.ifCond .lt 32, 3) := by decide +kernel
theorem dX10_push_7 : decode cX10_push 7 = .ok (.aload_n 0, 1) := by decide +kernel
theorem dX10_push_8 : decode cX10_push 8 = .ok (.getfield 7, 3) := by decide +kernel
theorem dX10_push_11 : decode cX10_push 11 = .ok (.aload_n 0, 1) := by decide +kernel
theorem dX10_push_12 : decode cX10_push 12 = .ok (.getfield 188, 3) := by decide +kernel
theorem dX10_push_15 : decode cX10_push 15 = .ok (.iload_n 1, 1) := by decide +kernel
theorem dX10_push_16 : decode cX10_push 16 = .ok (.iload_n 2, 1) := by decide +kernel
theorem dX10_push_17 : decode cX10_push 17 = .ok (.ishr, 1) := by decide +kernel
theorem dX10_push_18 : decode cX10_push 18 = .ok (.i2b, 1) := by decide +kernel
theorem dX10_push_19 : decode cX10_push 19 = .ok (.bastore, 1) := by decide +kernel
theorem dX10_push_20 : decode cX10_push 20 = .ok (.aload_n 0, 1) := by decide +kernel
theorem dX10_push_21 : decode cX10_push 21 = .ok (.dup, 1) := by decide +kernel
theorem dX10_push_22 : decode cX10_push 22 = .ok (.getfield 188, 3) := by decide +kernel
theorem dX10_push_25 : decode cX10_push 25 = .ok (.iconst 1, 1) := by decide +kernel
theorem dX10_push_26 : decode cX10_push 26 = .ok (.iadd, 1) := by decide +kernel
theorem dX10_push_27 : decode cX10_push 27 = .ok (.putfield 188, 3) := by decide +kernel
theorem dX10_push_30 : decode cX10_push 30 = .ok (.iinc 2 (-8), 3) := by decide +kernel
theorem dX10_push_33 : decode cX10_push 33 = .ok (.goto (-30), 3) := by decide +kernel
theorem dX10_push_36 : decode cX10_push 36 = .ok (.return_, 1) := by decide +kernel
set_option maxRecDepth 100000 in
theorem ggX10_feed_X10_push : GoodIn wsX10_feed wsX10_push := goodIn_r _ [6, 7, 1, 8, 9, 10, 11, 12, 13, 14, 15, 16, 17, 18, 19, 20, 21, 22, 23, 24, 25, 26, 27, 28, 29, 30, 31, 32, 33, 34, 35, 36, 37, 38, 39, 40, 41, 42, 43, 44, 45, 46, 47, 48, 49, 50, 51, 52, 53, 54, 55, 56, 57, 58, 59, 60, 61, 62, 63, 64, 65, 66, 67, 68, 69, 70, 71, 72, 73, 74, 75, 76, 77, 78, 79, 80, 81] rfl (by decide +kernel)
set_option maxRecDepth 100000 in
theorem gX10_feed_X10_push : GoodIn wsX10_feed (wsV RX10 191 RX10 yX10_push wsX10_push) := goodIn_app (goodIn_r _ [2, 3, 4, 5] rfl (by decide +kernel)) ggX10_feed_X10_push
theorem dX10_feed_0 : decode cX10_feed 0 = .ok (.aload_n 0, 1) := by decide +kernel
theorem dX10_feed_1 : decode cX10_feed 1 = .ok (.getfield 188, 3) := by decide +kernel
theorem dX10_feed_4 : decode cX10_feed 4 = .ok (.bipush 20, 2) := by decide +kernel
theorem dX10_feed_6 : decode cX10_feed 6 = .ok (.iadd, 1) := by decide +kernel
theorem dX10_feed_7 : decode cX10_feed 7 = .ok (.sipush 220, 3) := by decide +kernel
theorem dX10_feed_10 : decode cX10_feed 10 = .ok (.if_icmp .le 5, 3) := by decide +kernel
theorem dX10_feed_15 : decode cX10_feed 15 = .ok (.aload_n 0, 1) := by decide +kernel
theorem dX10_feed_16 : decode cX10_feed 16 = .ok (.iload_n 1, 1) := by decide +kernel
theorem dX10_feed_17 : decode cX10_feed 17 = .ok (.invokevirtual 191, 3) := by decide +kernel
theorem dX10_feed_20 : decode cX10_feed 20 = .ok (.aload_n 0, 1) := by decide +kernel
theorem dX10_feed_21 : decode cX10_feed 21 = .ok (.iload_n 2, 1) := by decide +kernel
