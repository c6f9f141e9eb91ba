theorem dX11_reads_157 : decode cX11_reads 157 = .ok (.iaload, 1) := by decide +kernel
theorem dX11_reads_158 : decode cX11_reads 158 = .ok (.iconst 1, 1) := by decide +kernel
theorem dX11_reads_159 : decode cX11_reads 159 = .ok (.iadd, 1) := by decide +kernel
theorem dX11_reads_160 : decode cX11_reads 160 = .ok (.iastore, 1) := by decide +kernel
theorem dX11_reads_161 : decode cX11_reads 161 = .ok (.aload_n 0, 1) := by decide +kernel
theorem dX11_reads_162 : decode cX11_reads 162 = .ok (.getfield 170, 3) := by decide +kernel
theorem dX11_reads_165 : decode cX11_reads 165 = .ok (.iconst 4, 1) := by decide +kernel
theorem dX11_reads_166 : decode cX11_reads 166 = .ok (.if_icmp .ne 7, 3) := by decide +kernel
theorem dX11_reads_169 : decode cX11_reads 169 = .ok (.iconst 1, 1) := by decide +kernel
theorem dX11_reads_170 : decode cX11_reads 170 = .ok (.goto 4, 3) := by decide +kernel
theorem dX11_reads_173 : decode cX11_reads 173 = .ok (.iconst 0, 1) := by decide +kernel
theorem dX11_reads_174 : decode cX11_reads 174 = .ok (.istore_n 2, 1) := by decide +kernel
theorem dX11_reads_175 : decode cX11_reads 175 = .ok (.iload_n 2, 1) := by decide +kernel
theorem dX11_reads_176 : decode cX11_reads 176 = .ok (.ifCond .eq 7, 3) := by decide +kernel
theorem dX11_reads_179 : decode cX11_reads 179 = .ok (.aload_n 0, 1) := by decide +kernel
theorem dX11_reads_180 : decode cX11_reads 180 = .ok (.invokevirtual 198, 3) := by decide +kernel
theorem dX11_reads_183 : decode cX11_reads 183 = .ok (.goto (-165), 3) := by decide +kernel
theorem dX11_reads_186 : decode cX11_reads 186 = .ok (.aload_n 0, 1) := by decide +kernel
theorem dX11_reads_187 : decode cX11_reads 187 = .ok (.getfield 170, 3) := by decide +kernel
theorem dX11_reads_190 : decode cX11_reads 190 = .ok (.iconst 1, 1) := by decide +kernel
theorem dX11_reads_191 : decode cX11_reads 191 = .ok (.if_icmp .eq 13, 3) := by decide +kernel
theorem dX11_reads_194 : decode cX11_reads 194 = .ok (.aload_n 0, 1) := by decide +kernel
theorem dX11_reads_195 : decode cX11_reads 195 = .ok (.iconst 1, 1) := by decide +kernel
theorem dX11_reads_196 : decode cX11_reads 196 = .ok (.aload_n 0, 1) := by decide +kernel
theorem dX11_reads_197 : decode cX11_reads 197 = .ok (.getfield 169, 3) := by decide +kernel
theorem dX11_reads_200 : decode cX11_reads 200 = .ok (.invokevirtual 195, 3) := by decide +kernel
theorem dX11_reads_203 : decode cX11_reads 203 = .ok (.athrow, 1) := by decide +kernel
theorem dX11_reads_204 : decode cX11_reads 204 = .ok (.iconst (-1), 1) := by decide +kernel
theorem dX11_reads_205 : decode cX11_reads 205 = .ok (.istore_n 3, 1) := by decide +kernel
theorem dX11_reads_206 : decode cX11_reads 206 = .ok (.iconst 0, 1) := by decide +kernel
theorem dX11_reads_207 : decode cX11_reads 207 = .ok (.istore 4, 2) := by decide +kernel
theorem dX11_reads_209 : decode cX11_reads 209 = .ok (.iload 4, 2) := by decide +kernel
theorem dX11_reads_211 : decode cX11_reads 211 = .ok (.aload_n 0, 1) := by decide +kernel
theorem dX11_reads_212 : decode cX11_reads 212 = .ok (.getfield 23, 3) := by decide +kernel
theorem dX11_reads_215 : decode cX11_reads 215 = .ok (.iload_n 1, 1) := by decide +kernel
theorem dX11_reads_216 : decode cX11_reads 216 = .ok (.iaload, 1) := by decide +kernel
theorem dX11_reads_217 : decode cX11_reads 217 = .ok (.if_icmp .ge 143, 3) := by decide +kernel
theorem dX11_reads_220 : decode cX11_reads 220 = .ok (.bipush 24, 2) := by decide +kernel
theorem dX11_reads_222 : decode cX11_reads 222 = .ok (.iload_n 1, 1) := by decide +kernel
theorem dX11_reads_223 : decode cX11_reads 223 = .ok (.imul, 1) := by decide +kernel
theorem dX11_reads_224 : decode cX11_reads 224 = .ok (.iload 4, 2) := by decide +kernel
theorem dX11_reads_226 : decode cX11_reads 226 = .ok (.iadd, 1) := by decide +kernel
theorem dX11_reads_227 : decode cX11_reads 227 = .ok (.istore 5, 2) := by decide +kernel
theorem dX11_reads_229 : decode cX11_reads 229 = .ok (.iconst 0, 1) := by decide +kernel
theorem dX11_reads_230 : decode cX11_reads 230 = .ok (.istore 6, 2) := by decide +kernel
theorem dX11_reads_232 : decode cX11_reads 232 = .ok (.iload 6, 2) := by decide +kernel
theorem dX11_reads_234 : decode cX11_reads 234 = .ok (.iconst 2, 1) := by decide +kernel
theorem dX11_reads_235 : decode cX11_reads 235 = .ok (.if_icmp .ge 119, 3) := by decide +kernel
theorem dX11_reads_238 : decode cX11_reads 238 = .ok (.aload_n 0, 1) := by decide +kernel
theorem dX11_reads_239 : decode cX11_reads 239 = .ok (.getfield 26, 3) := by decide +kernel
theorem dX11_reads_242 : decode cX11_reads 242 = .ok (.iload 5, 2) := by decide +kernel
theorem dX11_reads_244 : decode cX11_reads 244 = .ok (.iaload, 1) := by decide +kernel
theorem dX11_reads_245 : decode cX11_reads 245 = .ok (.iconst 2, 1) := by decide +kernel
theorem dX11_reads_246 : decode cX11_reads 246 = .ok (.if_icmp .ne 28, 3) := by decide +kernel
theorem dX11_reads_249 : decode cX11_reads 249 = .ok (.iload 6, 2) := by decide +kernel
theorem dX11_reads_251 : decode cX11_reads 251 = .ok (.ifCond .ne 13, 3) := by decide +kernel
theorem dX11_reads_254 : decode cX11_reads 254 = .ok (.aload_n 0, 1) := by decide +kernel
theorem dX11_reads_255 : decode cX11_reads 255 = .ok (.getfield 32, 3) := by decide +kernel
theorem dX11_reads_258 : decode cX11_reads 258 = .ok (.iload 5, 2) := by decide +kernel
theorem dX11_reads_260 : decode cX11_reads 260 = .ok (.iaload, 1) := by decide +kernel
theorem dX11_reads_261 : decode cX11_reads 261 = .ok (.goto 40, 3) := by decide +kernel
theorem dX11_reads_264 : decode cX11_reads 264 = .ok (.aload_n 0, 1) := by decide +kernel
theorem dX11_reads_265 : decode cX11_reads 265 = .ok (.getfield 35, 3) := by decide +kernel
theorem dX11_reads_268 : decode cX11_reads 268 = .ok (.iload 5, 2) := by decide +kernel
theorem dX11_reads_270 : decode cX11_reads 270 = .ok (.iaload, 1) := by decide +kernel
theorem dX11_reads_271 : decode cX11_reads 271 = .ok (.goto 30, 3) := by decide +kernel
theorem dX11_reads_274 : decode cX11_reads 274 = .ok (.aload_n 0, 1) := by decide +kernel
theorem dX11_reads_275 : decode cX11_reads 275 = .ok (.getfield 26, 3) := by decide +kernel
theorem dX11_reads_278 : decode cX11_reads 278 = .ok (.iload 5, 2) := by decide +kernel
theorem dX11_reads_280 : decode cX11_reads 280 = .ok (.iaload, 1) := by decide +kernel
theorem dX11_reads_281 : decode cX11_reads 281 = .ok (.iconst 4, 1) := by decide +kernel
theorem dX11_reads_282 : decode cX11_reads 282 = .ok (.if_icmp .ne 18, 3) := by decide +kernel
theorem dX11_reads_285 : decode cX11_reads 285 = .ok (.iload 6, 2) := by decide +kernel
theorem dX11_reads_287 : decode cX11_reads 287 = .ok (.ifCond .ne 13, 3) := by decide +kernel
theorem dX11_reads_290 : decode cX11_reads 290 = .ok (.aload_n 0, 1) := by decide +kernel
theorem dX11_reads_291 : decode cX11_reads 291 = .ok (.getfield 29, 3) := by decide +kernel
theorem dX11_reads_294 : decode cX11_reads 294 = .ok (.iload 5, 2) := by decide +kernel
theorem dX11_reads_296 : decode cX11_reads 296 = .ok (.iaload, 1) := by decide +kernel
theorem dX11_reads_297 : decode cX11_reads 297 = .ok (.goto 4, 3) := by decide +kernel
theorem dX11_reads_300 : decode cX11_reads 300 = .ok (.iconst 0, 1) := by decide +kernel
theorem dX11_reads_301 : decode cX11_reads 301 = .ok (.istore 7, 2) := by decide +kernel
theorem dX11_reads_303 : decode cX11_reads 303 = .ok (.iload 7, 2) := by decide +kernel
theorem dX11_reads_305 : decode cX11_reads 305 = .ok (.aload_n 0, 1) := by decide +kernel
theorem dX11_reads_306 : decode cX11_reads 306 = .ok (.getfield 23, 3) := by decide +kernel
theorem dX11_reads_309 : decode cX11_reads 309 = .ok (.iload_n 1, 1) := by decide +kernel
theorem dX11_reads_310 : decode cX11_reads 310 = .ok (.iaload, 1) := by decide +kernel
theorem dX11_reads_311 : decode cX11_reads 311 = .ok (.if_icmp .lt 37, 3) := by decide +kernel
theorem dX11_reads_314 : decode cX11_reads 314 = .ok (.iload_n 3, 1) := by decide +kernel
theorem dX11_reads_315 : decode cX11_reads 315 = .ok (.iconst (-1), 1) := by decide +kernel
theorem dX11_reads_316 : decode cX11_reads 316 = .ok (.if_icmp .eq 19, 3) := by decide +kernel
theorem dX11_reads_319 : decode cX11_reads 319 = .ok (.aload_n 0, 1) := by decide +kernel
theorem dX11_reads_320 : decode cX11_reads 320 = .ok (.getfield 52, 3) := by decide +kernel
theorem dX11_reads_323 : decode cX11_reads 323 = .ok (.iconst 2, 1) := by decide +kernel
theorem dX11_reads_324 : decode cX11_reads 324 = .ok (.iload 4, 2) := by decide +kernel
theorem dX11_reads_326 : decode cX11_reads 326 = .ok (.imul, 1) := by decide +kernel
theorem dX11_reads_327 : decode cX11_reads 327 = .ok (.iload 6, 2) := by decide +kernel
theorem dX11_reads_329 : decode cX11_reads 329 = .ok (.iadd, 1) := by decide +kernel
theorem dX11_reads_330 : decode cX11_reads 330 = .ok (.iaload, 1) := by decide +kernel
theorem dX11_reads_331 : decode cX11_reads 331 = .ok (.iload_n 3, 1) := by decide +kernel
theorem dX11_reads_332 : decode cX11_reads 332 = .ok (.if_icmp .ge 16, 3) := by decide +kernel
theorem dX11_reads_335 : decode cX11_reads 335 = .ok (.aload_n 0, 1) := by decide +kernel
theorem dX11_reads_336 : decode cX11_reads 336 = .ok (.getfield 52, 3) := by decide +kernel
theorem dX11_reads_339 : decode cX11_reads 339 = .ok (.iconst 2, 1) := by decide +kernel
theorem dX11_reads_340 : decode cX11_reads 340 = .ok (.iload 4, 2) := by decide +kernel
theorem dX11_reads_342 : decode cX11_reads 342 = .ok (.imul, 1) := by decide +kernel
theorem dX11_reads_343 : decode cX11_reads 343 = .ok (.iload 6, 2) := by decide +kernel
theorem dX11_reads_345 : decode cX11_reads 345 = .ok (.iadd, 1) := by decide +kernel
theorem dX11_reads_346 : decode cX11_reads 346 = .ok (.iaload, 1) := by decide +kernel
theorem dX11_reads_347 : decode cX11_reads 347 = .ok (.istore_n 3, 1) := by decide +kernel
theorem dX11_reads_348 : decode cX11_reads 348 = .ok (.iinc 6 1, 3) := by decide +kernel
theorem dX11_reads_351 : decode cX11_reads 351 = .ok (.goto (-119), 3) := by decide +kernel
theorem dX11_reads_354 : decode cX11_reads 354 = .ok (.iinc 4 1, 3) := by decide +kernel
theorem dX11_reads_357 : decode cX11_reads 357 = .ok (.goto (-148), 3) := by decide +kernel
theorem dX11_reads_360 : decode cX11_reads 360 = .ok (.iload_n 3, 1) := by decide +kernel
theorem dX11_reads_361 : decode cX11_reads 361 = .ok (.iconst (-1), 1) := by decide +kernel
theorem dX11_reads_362 : decode cX11_reads 362 = .ok (.if_icmp .eq 10, 3) := by decide +kernel
theorem dX11_reads_365 : decode cX11_reads 365 = .ok (.aload_n 0, 1) := by decide +kernel
theorem dX11_reads_366 : decode cX11_reads 366 = .ok (.iconst 2, 1) := by decide +kernel
theorem dX11_reads_367 : decode cX11_reads 367 = .ok (.iload_n 3, 1) := by decide +kernel
theorem dX11_reads_368 : decode cX11_reads 368 = .ok (.invokevirtual 195, 3) := by decide +kernel
theorem dX11_reads_371 : decode cX11_reads 371 = .ok (.athrow, 1) := by decide +kernel
theorem dX11_reads_372 : decode cX11_reads 372 = .ok (.return_, 1) := by decide +kernel
set_option maxRecDepth 20000 in
theorem ggX11_readStep_X11_needNumber : GoodIn wsX11_readStep wsX11_needNumber := goodIn_r _ [13, 14, 6, 15, 16, 17, 12, 18, 19, 20, 21, 22, 23, 24, 25, 26, 27, 28, 29, 30, 31, 32, 33, 34, 35, 36, 37, 103, 104, 105, 106, 107, 108, 109, 110, 111, 112, 113, 114, 115, 116, 117, 118, 119, 120, 121, 122, 123, 124, 125, 126, 127, 128, 129, 130, 131, 132, 133, 134, 135, 136, 137, 138, 139, 140, 141, 142, 143, 144, 145, 146, 147, 148, 149, 150, 151, 152, 153, 154, 155, 156, 157, 158, 159, 160, 161, 162, 163, 164, 165, 166, 167, 168, 169, 170] (by decide +kernel) (by decide +kernel)
set_option maxRecDepth 20000 in
theorem gX11_readStep_X11_needNumber : GoodIn wsX11_readStep (wsV RX11 218 RX11 yX11_needNumber wsX11_needNumber) := goodIn_app (goodIn_of _ (by decide +kernel)) ggX11_readStep_X11_needNumber
set_option maxRecDepth 20000 in
theorem ggX11_readStep_X11_isWord : GoodIn wsX11_readStep wsX11_isWord := goodIn_r _ [41, 14, 24, 42, 43, 12, 44, 25, 45, 46, 47, 48, 49, 50, 51, 52, 53, 54, 55, 56, 57, 58, 59, 60, 61, 62, 63, 64, 65, 66, 67, 68, 69, 70, 71, 72, 73, 74, 75, 76, 77, 78, 79, 80, 81, 82, 83, 84, 85, 86, 87, 88, 89, 90, 91, 92, 93, 103, 104, 105, 106, 107, 108, 109, 110, 111, 112, 113, 114, 115, 116, 117, 118, 119, 120, 121, 122, 123, 124, 125, 126, 127, 128, 129, 130, 131, 132, 133, 134, 135, 136, 137, 138, 139, 140, 141, 142, 143, 144, 145, 146, 147, 148, 149, 150, 151, 152, 153, 154, 155, 156, 157, 158, 159, 160, 161, 162, 163, 164, 165, 166, 167, 168, 169, 170] (by decide +kernel) (by decide +kernel)
set_option maxRecDepth 20000 in
theorem gX11_readStep_X11_isWord : GoodIn wsX11_readStep (wsV RX11 191 RX11 yX11_isWord wsX11_isWord) := goodIn_app (goodIn_of _ (by decide +kernel)) ggX11_readStep_X11_isWord
set_option maxRecDepth 20000 in
theorem ggX11_readStep_X11_next : GoodIn wsX11_readStep wsX11_next := goodIn_r _ [22, 23, 6, 14, 24, 25, 15, 26, 27, 28, 12, 29, 30, 31, 32, 33, 34, 35, 36, 37, 103, 104, 105, 106, 107, 108, 109, 110, 111, 112, 113, 114, 115, 116, 117, 118, 119, 120, 121, 122, 123, 124, 125, 126, 127, 128, 129, 130, 131, 132, 133, 134, 135, 136, 137, 138, 139, 140, 141, 142, 143, 144, 145, 146, 147, 148, 149, 150, 151, 152, 153, 154, 155, 156, 157, 158, 159, 160, 161, 162, 163, 164, 165, 166, 167, 168, 169, 170] (by decide +kernel) (by decide +kernel)
set_option maxRecDepth 20000 in
theorem gX11_readStep_X11_next : GoodIn wsX11_readStep (wsV RX11 198 RX11 yX11_next wsX11_next) := goodIn_app (goodIn_of _ (by decide +kernel)) ggX11_readStep_X11_next
set_option maxRecDepth 20000 in
theorem ggX11_readStep_X11_needWord : GoodIn wsX11_readStep wsX11_needWord := goodIn_r _ [97, 6, 38, 39, 40, 12, 41, 14, 24, 42, 43, 44, 25, 45, 46, 47, 48, 49, 50, 51, 52, 53, 54, 55, 56, 57, 58, 59, 60, 61, 62, 63, 64, 65, 66, 67, 68, 69, 70, 71, 72, 73, 74, 75, 76, 77, 78, 79, 80, 81, 82, 83, 84, 85, 86, 87, 88, 89, 90, 91, 92, 93, 19, 20, 21, 22, 23, 15, 26, 27, 28, 29, 30, 31, 32, 33, 34, 35, 36, 37, 103, 104, 105, 106, 107, 108, 109, 110, 111, 112, 113, 114, 115, 116, 117, 118, 119, 120, 121, 122, 123, 124, 125, 126, 127, 128, 129, 130, 131, 132, 133, 134, 135, 136, 137, 138, 139, 140, 141, 142, 143, 144, 145, 146, 147, 148, 149, 150, 151, 152, 153, 154, 155, 156, 157, 158, 159, 160, 161, 162, 163, 164, 165, 166, 167, 168, 169, 170] (by decide +kernel) (by decide +kernel)
set_option maxRecDepth 20000 in
theorem gX11_readStep_X11_needWord : GoodIn wsX11_readStep (wsV RX11 228 RX11 yX11_needWord wsX11_needWord) := goodIn_app (goodIn_of _ (by decide +kernel)) ggX11_readStep_X11_needWord
set_option maxRecDepth 20000 in
theorem ggX11_readStep_X11_needTarget : GoodIn wsX11_readStep wsX11_needTarget := goodIn_r _ [101, 14, 6, 102, 15, 19, 20, 21, 12, 22, 23, 24, 25, 26, 27, 28, 29, 30, 31, 32, 33, 34, 35, 36, 37, 103, 104, 105, 106, 107, 108, 109, 110, 111, 112, 113, 114, 115, 116, 117, 118, 119, 120, 121, 122, 123, 124, 125, 126, 127, 128, 129, 130, 131, 132, 133, 134, 135, 136, 137, 138, 139, 140, 141, 142, 143, 144, 145, 146, 147, 148, 149, 150, 151, 152, 153, 154, 155, 156, 157, 158, 159, 160, 161, 162, 163, 164, 165, 166, 167, 168, 169, 170] (by decide +kernel) (by decide +kernel)
set_option maxRecDepth 20000 in
theorem gX11_readStep_X11_needTarget : GoodIn wsX11_readStep (wsV RX11 237 RX11 yX11_needTarget wsX11_needTarget) := goodIn_app (goodIn_of _ (by decide +kernel)) ggX11_readStep_X11_needTarget
theorem dX11_readStep_0 : decode cX11_readStep 0 = .ok (.aload_n 0, 1) := by decide +kernel
theorem dX11_readStep_1 : decode cX11_readStep 1 = .ok (.getfield 26, 3) := by decide +kernel
theorem dX11_readStep_4 : decode cX11_readStep 4 = .ok (.iload_n 1, 1) := by decide +kernel
theorem dX11_readStep_5 : decode cX11_readStep 5 = .ok (.iload_n 3, 1) := by decide +kernel
theorem dX11_readStep_6 : decode cX11_readStep 6 = .ok (.iastore, 1) := by decide +kernel
theorem dX11_readStep_7 : decode cX11_readStep 7 = .ok (.aload_n 0, 1) := by decide +kernel
theorem dX11_readStep_8 : decode cX11_readStep 8 = .ok (.getfield 29, 3) := by decide +kernel
theorem dX11_readStep_11 : decode cX11_readStep 11 = .ok (.iload_n 1, 1) := by decide +kernel
theorem dX11_readStep_12 : decode cX11_readStep 12 = .ok (.iconst 0, 1) := by decide +kernel
theorem dX11_readStep_13 : decode cX11_readStep 13 = .ok (.iastore, 1) := by decide +kernel
theorem dX11_readStep_14 : decode cX11_readStep 14 = .ok (.aload_n 0, 1) := by decide +kernel
theorem dX11_readStep_15 : decode cX11_readStep 15 = .ok (.getfield 32, 3) := by decide +kernel
theorem dX11_readStep_18 : decode cX11_readStep 18 = .ok (.iload_n 1, 1) := by decide +kernel
theorem dX11_readStep_19 : decode cX11_readStep 19 = .ok (.iconst 0, 1) := by decide +kernel
theorem dX11_readStep_20 : decode cX11_readStep 20 = .ok (.iastore, 1) := by decide +kernel
theorem dX11_readStep_21 : decode cX11_readStep 21 = .ok (.aload_n 0, 1) := by decide +kernel
theorem dX11_readStep_22 : decode cX11_readStep 22 = .ok (.getfield 35, 3) := by decide +kernel
theorem dX11_readStep_25 : decode cX11_readStep 25 = .ok (.iload_n 1, 1) := by decide +kernel
theorem dX11_readStep_26 : decode cX11_readStep 26 = .ok (.iconst 0, 1) := by decide +kernel
theorem dX11_readStep_27 : decode cX11_readStep 27 = .ok (.iastore, 1) := by decide +kernel
theorem dX11_readStep_28 : decode cX11_readStep 28 = .ok (.aload_n 0, 1) := by decide +kernel
theorem dX11_readStep_29 : decode cX11_readStep 29 = .ok (.getfield 38, 3) := by decide +kernel
theorem dX11_readStep_32 : decode cX11_readStep 32 = .ok (.iload_n 1, 1) := by decide +kernel
theorem dX11_readStep_33 : decode cX11_readStep 33 = .ok (.iconst (-1), 1) := by decide +kernel
theorem dX11_readStep_34 : decode cX11_readStep 34 = .ok (.iastore, 1) := by decide +kernel
theorem dX11_readStep_35 : decode cX11_readStep 35 = .ok (.iload_n 3, 1) := by decide +kernel
theorem dX11_readStep_36 : decode cX11_readStep 36 = .ok (.tableswitch 263 0 4 #[36, 263, 176, 232, 248], 36) := by decide +kernel
theorem dX11_readStep_72 : decode cX11_readStep 72 = .ok (.aload_n 0, 1) := by decide +kernel
theorem dX11_readStep_73 : decode cX11_readStep 73 = .ok (.getfield 29, 3) := by decide +kernel
theorem dX11_readStep_76 : decode cX11_readStep 76 = .ok (.iload_n 1, 1) := by decide +kernel
theorem dX11_readStep_77 : decode cX11_readStep 77 = .ok (.aload_n 0, 1) := by decide +kernel
theorem dX11_readStep_78 : decode cX11_readStep 78 = .ok (.iconst 0, 1) := by decide +kernel
theorem dX11_readStep_79 : decode cX11_readStep 79 = .ok (.bipush 7, 2) := by decide +kernel
theorem dX11_readStep_81 : decode cX11_readStep 81 = .ok (.invokevirtual 218, 3) := by decide +kernel
theorem dX11_readStep_84 : decode cX11_readStep 84 = .ok (.iastore, 1) := by decide +kernel
theorem dX11_readStep_85 : decode cX11_readStep 85 = .ok (.aload_n 0, 1) := by decide +kernel
theorem dX11_readStep_86 : decode cX11_readStep 86 = .ok (.ldc 222, 2) := by decide +kernel
theorem dX11_readStep_88 : decode cX11_readStep 88 = .ok (.invokevirtual 191, 3) := by decide +kernel
theorem dX11_readStep_91 : decode cX11_readStep 91 = .ok (.ifCond .ne 22, 3) := by decide +kernel
theorem dX11_readStep_94 : decode cX11_readStep 94 = .ok (.aload_n 0, 1) := by decide +kernel
theorem dX11_readStep_95 : decode cX11_readStep 95 = .ok (.ldc 224, 2) := by decide +kernel
theorem dX11_readStep_97 : decode cX11_readStep 97 = .ok (.invokevirtual 191, 3) := by decide +kernel
theorem dX11_readStep_100 : decode cX11_readStep 100 = .ok (.ifCond .ne 13, 3) := by decide +kernel
theorem dX11_readStep_103 : decode cX11_readStep 103 = .ok (.aload_n 0, 1) := by decide +kernel
theorem dX11_readStep_104 : decode cX11_readStep 104 = .ok (.iconst 1, 1) := by decide +kernel
theorem dX11_readStep_105 : decode cX11_readStep 105 = .ok (.aload_n 0, 1) := by decide +kernel
theorem dX11_readStep_106 : decode cX11_readStep 106 = .ok (.getfield 169, 3) := by decide +kernel
theorem dX11_readStep_109 : decode cX11_readStep 109 = .ok (.invokevirtual 195, 3) := by decide +kernel
theorem dX11_readStep_112 : decode cX11_readStep 112 = .ok (.athrow, 1) := by decide +kernel
theorem dX11_readStep_113 : decode cX11_readStep 113 = .ok (.aload_n 0, 1) := by decide +kernel
theorem dX11_readStep_114 : decode cX11_readStep 114 = .ok (.getfield 26, 3) := by decide +kernel
theorem dX11_readStep_117 : decode cX11_readStep 117 = .ok (.iload_n 1, 1) := by decide +kernel
theorem dX11_readStep_118 : decode cX11_readStep 118 = .ok (.aload_n 0, 1) := by decide +kernel
theorem dX11_readStep_119 : decode cX11_readStep 119 = .ok (.ldc 222, 2) := by decide +kernel
theorem dX11_readStep_121 : decode cX11_readStep 121 = .ok (.invokevirtual 191, 3) := by decide +kernel
theorem dX11_readStep_124 : decode cX11_readStep 124 = .ok (.ifCond .eq 7, 3) := by decide +kernel
theorem dX11_readStep_127 : decode cX11_readStep 127 = .ok (.iconst 0, 1) := by decide +kernel
theorem dX11_readStep_128 : decode cX11_readStep 128 = .ok (.goto 4, 3) := by decide +kernel
theorem dX11_readStep_131 : decode cX11_readStep 131 = .ok (.iconst 1, 1) := by decide +kernel
theorem dX11_readStep_132 : decode cX11_readStep 132 = .ok (.iastore, 1) := by decide +kernel
theorem dX11_readStep_133 : decode cX11_readStep 133 = .ok (.aload_n 0, 1) := by decide +kernel
theorem dX11_readStep_134 : decode cX11_readStep 134 = .ok (.invokevirtual 198, 3) := by decide +kernel
theorem dX11_readStep_137 : decode cX11_readStep 137 = .ok (.aload_n 0, 1) := by decide +kernel
theorem dX11_readStep_138 : decode cX11_readStep 138 = .ok (.getfield 32, 3) := by decide +kernel
theorem dX11_readStep_141 : decode cX11_readStep 141 = .ok (.iload_n 1, 1) := by decide +kernel
theorem dX11_readStep_142 : decode cX11_readStep 142 = .ok (.aload_n 0, 1) := by decide +kernel
theorem dX11_readStep_143 : decode cX11_readStep 143 = .ok (.iconst 0, 1) := by decide +kernel
theorem dX11_readStep_144 : decode cX11_readStep 144 = .ok (.aload_n 0, 1) := by decide +kernel
theorem dX11_readStep_145 : decode cX11_readStep 145 = .ok (.getfield 123, 3) := by decide +kernel
theorem dX11_readStep_148 : decode cX11_readStep 148 = .ok (.iconst 1, 1) := by decide +kernel
theorem dX11_readStep_149 : decode cX11_readStep 149 = .ok (.isub, 1) := by decide +kernel
theorem dX11_readStep_150 : decode cX11_readStep 150 = .ok (.invokevirtual 218, 3) := by decide +kernel
theorem dX11_readStep_153 : decode cX11_readStep 153 = .ok (.iastore, 1) := by decide +kernel
theorem dX11_readStep_154 : decode cX11_readStep 154 = .ok (.aload_n 0, 1) := by decide +kernel
theorem dX11_readStep_155 : decode cX11_readStep 155 = .ok (.ldc 226, 2) := by decide +kernel
theorem dX11_readStep_157 : decode cX11_readStep 157 = .ok (.invokevirtual 228, 3) := by decide +kernel
theorem dX11_readStep_160 : decode cX11_readStep 160 = .ok (.aload_n 0, 1) := by decide +kernel
theorem dX11_readStep_161 : decode cX11_readStep 161 = .ok (.getfield 35, 3) := by decide +kernel
theorem dX11_readStep_164 : decode cX11_readStep 164 = .ok (.iload_n 1, 1) := by decide +kernel
theorem dX11_readStep_165 : decode cX11_readStep 165 = .ok (.aload_n 0, 1) := by decide +kernel
theorem dX11_readStep_166 : decode cX11_readStep 166 = .ok (.iconst 1, 1) := by decide +kernel
theorem dX11_readStep_167 : decode cX11_readStep 167 = .ok (.bipush 60, 2) := by decide +kernel
theorem dX11_readStep_169 : decode cX11_readStep 169 = .ok (.invokevirtual 218, 3) := by decide +kernel
theorem dX11_readStep_172 : decode cX11_readStep 172 = .ok (.iastore, 1) := by decide +kernel
theorem dX11_readStep_173 : decode cX11_readStep 173 = .ok (.aload_n 0, 1) := by decide +kernel
theorem dX11_readStep_174 : decode cX11_readStep 174 = .ok (.ldc 232, 2) := by decide +kernel
theorem dX11_readStep_176 : decode cX11_readStep 176 = .ok (.invokevirtual 191, 3) := by decide +kernel
theorem dX11_readStep_179 : decode cX11_readStep 179 = .ok (.ifCond .eq 120, 3) := by decide +kernel
theorem dX11_readStep_182 : decode cX11_readStep 182 = .ok (.aload_n 0, 1) := by decide +kernel
theorem dX11_readStep_183 : decode cX11_readStep 183 = .ok (.invokevirtual 198, 3) := by decide +kernel
theorem dX11_readStep_186 : decode cX11_readStep 186 = .ok (.aload_n 0, 1) := by decide +kernel
theorem dX11_readStep_187 : decode cX11_readStep 187 = .ok (.getfield 38, 3) := by decide +kernel
theorem dX11_readStep_190 : decode cX11_readStep 190 = .ok (.iload_n 1, 1) := by decide +kernel
theorem dX11_readStep_191 : decode cX11_readStep 191 = .ok (.aload_n 0, 1) := by decide +kernel
theorem dX11_readStep_192 : decode cX11_readStep 192 = .ok (.iconst 0, 1) := by decide +kernel
theorem dX11_readStep_193 : decode cX11_readStep 193 = .ok (.aload_n 0, 1) := by decide +kernel
theorem dX11_readStep_194 : decode cX11_readStep 194 = .ok (.getfield 123, 3) := by decide +kernel
theorem dX11_readStep_197 : decode cX11_readStep 197 = .ok (.iconst 1, 1) := by decide +kernel
theorem dX11_readStep_198 : decode cX11_readStep 198 = .ok (.isub, 1) := by decide +kernel
theorem dX11_readStep_199 : decode cX11_readStep 199 = .ok (.invokevirtual 218, 3) := by decide +kernel
theorem dX11_readStep_202 : decode cX11_readStep 202 = .ok (.iastore, 1) := by decide +kernel
theorem dX11_readStep_203 : decode cX11_readStep 203 = .ok (.aload_n 0, 1) := by decide +kernel
theorem dX11_readStep_204 : decode cX11_readStep 204 = .ok (.ldc 234, 2) := by decide +kernel
theorem dX11_readStep_206 : decode cX11_readStep 206 = .ok (.invokevirtual 228, 3) := by decide +kernel
theorem dX11_readStep_209 : decode cX11_readStep 209 = .ok (.goto 90, 3) := by decide +kernel
theorem dX11_readStep_212 : decode cX11_readStep 212 = .ok (.aload_n 0, 1) := by decide +kernel
theorem dX11_readStep_213 : decode cX11_readStep 213 = .ok (.getfield 29, 3) := by decide +kernel
theorem dX11_readStep_216 : decode cX11_readStep 216 = .ok (.iload_n 1, 1) := by decide +kernel
theorem dX11_readStep_217 : decode cX11_readStep 217 = .ok (.aload_n 0, 1) := by decide +kernel
theorem dX11_readStep_218 : decode cX11_readStep 218 = .ok (.iconst 0, 1) := by decide +kernel
theorem dX11_readStep_219 : decode cX11_readStep 219 = .ok (.aload_n 0, 1) := by decide +kernel
theorem dX11_readStep_220 : decode cX11_readStep 220 = .ok (.getfield 133, 3) := by decide +kernel
theorem dX11_readStep_223 : decode cX11_readStep 223 = .ok (.iconst 1, 1) := by decide +kernel
theorem dX11_readStep_224 : decode cX11_readStep 224 = .ok (.isub, 1) := by decide +kernel
theorem dX11_readStep_225 : decode cX11_readStep 225 = .ok (.invokevirtual 218, 3) := by decide +kernel
theorem dX11_readStep_228 : decode cX11_readStep 228 = .ok (.iastore, 1) := by decide +kernel
theorem dX11_readStep_229 : decode cX11_readStep 229 = .ok (.aload_n 0, 1) := by decide +kernel
theorem dX11_readStep_230 : decode cX11_readStep 230 = .ok (.ldc 235, 2) := by decide +kernel
theorem dX11_readStep_232 : decode cX11_readStep 232 = .ok (.invokevirtual 228, 3) := by decide +kernel
theorem dX11_readStep_235 : decode cX11_readStep 235 = .ok (.aload_n 0, 1) := by decide +kernel
theorem dX11_readStep_236 : decode cX11_readStep 236 = .ok (.getfield 32, 3) := by decide +kernel
theorem dX11_readStep_239 : decode cX11_readStep 239 = .ok (.iload_n 1, 1) := by decide +kernel
theorem dX11_readStep_240 : decode cX11_readStep 240 = .ok (.aload_n 0, 1) := by decide +kernel
theorem dX11_readStep_241 : decode cX11_readStep 241 = .ok (.iload_n 2, 1) := by decide +kernel
theorem dX11_readStep_242 : decode cX11_readStep 242 = .ok (.iconst 0, 1) := by decide +kernel
theorem dX11_readStep_243 : decode cX11_readStep 243 = .ok (.invokevirtual 237, 3) := by decide +kernel
theorem dX11_readStep_246 : decode cX11_readStep 246 = .ok (.iastore, 1) := by decide +kernel
theorem dX11_readStep_247 : decode cX11_readStep 247 = .ok (.aload_n 0, 1) := by decide +kernel
theorem dX11_readStep_248 : decode cX11_readStep 248 = .ok (.ldc 240, 2) := by decide +kernel
theorem dX11_readStep_250 : decode cX11_readStep 250 = .ok (.invokevirtual 228, 3) := by decide +kernel
theorem dX11_readStep_253 : decode cX11_readStep 253 = .ok (.aload_n 0, 1) := by decide +kernel
theorem dX11_readStep_254 : decode cX11_readStep 254 = .ok (.getfield 35, 3) := by decide +kernel
theorem dX11_readStep_257 : decode cX11_readStep 257 = .ok (.iload_n 1, 1) := by decide +kernel
theorem dX11_readStep_258 : decode cX11_readStep 258 = .ok (.aload_n 0, 1) := by decide +kernel
theorem dX11_readStep_259 : decode cX11_readStep 259 = .ok (.iload_n 2, 1) := by decide +kernel
theorem dX11_readStep_260 : decode cX11_readStep 260 = .ok (.iconst 1, 1) := by decide +kernel
theorem dX11_readStep_261 : decode cX11_readStep 261 = .ok (.invokevirtual 237, 3) := by decide +kernel
theorem dX11_readStep_264 : decode cX11_readStep 264 = .ok (.iastore, 1) := by decide +kernel
theorem dX11_readStep_265 : decode cX11_readStep 265 = .ok (.goto 34, 3) := by decide +kernel
theorem dX11_readStep_268 : decode cX11_readStep 268 = .ok (.aload_n 0, 1) := by decide +kernel
theorem dX11_readStep_269 : decode cX11_readStep 269 = .ok (.getfield 29, 3) := by decide +kernel
theorem dX11_readStep_272 : decode cX11_readStep 272 = .ok (.iload_n 1, 1) := by decide +kernel
theorem dX11_readStep_273 : decode cX11_readStep 273 = .ok (.aload_n 0, 1) := by decide +kernel
theorem dX11_readStep_274 : decode cX11_readStep 274 = .ok (.iconst 1, 1) := by decide +kernel
theorem dX11_readStep_275 : decode cX11_readStep 275 = .ok (.bipush 60, 2) := by decide +kernel
theorem dX11_readStep_277 : decode cX11_readStep 277 = .ok (.invokevirtual 218, 3) := by decide +kernel
theorem dX11_readStep_280 : decode cX11_readStep 280 = .ok (.iastore, 1) := by decide +kernel
theorem dX11_readStep_281 : decode cX11_readStep 281 = .ok (.goto 18, 3) := by decide +kernel
theorem dX11_readStep_284 : decode cX11_readStep 284 = .ok (.aload_n 0, 1) := by decide +kernel
theorem dX11_readStep_285 : decode cX11_readStep 285 = .ok (.getfield 29, 3) := by decide +kernel
theorem dX11_readStep_288 : decode cX11_readStep 288 = .ok (.iload_n 1, 1) := by decide +kernel
theorem dX11_readStep_289 : decode cX11_readStep 289 = .ok (.aload_n 0, 1) := by decide +kernel
theorem dX11_readStep_290 : decode cX11_readStep 290 = .ok (.iload_n 2, 1) := by decide +kernel
theorem dX11_readStep_291 : decode cX11_readStep 291 = .ok (.iconst 0, 1) := by decide +kernel
theorem dX11_readStep_292 : decode cX11_readStep 292 = .ok (.invokevirtual 237, 3) := by decide +kernel
theorem dX11_readStep_295 : decode cX11_readStep 295 = .ok (.iastore, 1) := by decide +kernel
theorem dX11_readStep_296 : decode cX11_readStep 296 = .ok (.goto 3, 3) := by decide +kernel
theorem dX11_readStep_299 : decode cX11_readStep 299 = .ok (.return_, 1) := by decide +kernel
theorem dX11_feed_0 : decode cX11_feed 0 = .ok (.aload_n 0, 1) := by decide +kernel
theorem dX11_feed_1 : decode cX11_feed 1 = .ok (.iconst 0, 1) := by decide +kernel
theorem dX11_feed_2 : decode cX11_feed 2 = .ok (.putfield 117, 3) := by decide +kernel
theorem dX11_feed_5 : decode cX11_feed 5 = .ok (.aload_n 0, 1) := by decide +kernel
theorem dX11_feed_6 : decode cX11_feed 6 = .ok (.getfield 242, 3) := by decide +kernel
theorem dX11_feed_9 : decode cX11_feed 9 = .ok (.bipush 20, 2) := by decide +kernel
theorem dX11_feed_11 : decode cX11_feed 11 = .ok (.iadd, 1) := by decide +kernel
theorem dX11_feed_12 : decode cX11_feed 12 = .ok (.sipush 600, 3) := by decide +kernel
theorem dX11_feed_15 : decode cX11_feed 15 = .ok (.if_icmp .le 5, 3) := by decide +kernel
theorem dX11_feed_18 : decode cX11_feed 18 = .ok (.iconst (-1), 1) := by decide +kernel
theorem dX11_feed_19 : decode cX11_feed 19 = .ok (.ireturn, 1) := by decide +kernel
theorem dX11_feed_20 : decode cX11_feed 20 = .ok (.iconst 0, 1) := by decide +kernel
theorem dX11_feed_21 : decode cX11_feed 21 = .ok (.istore 6, 2) := by decide +kernel
theorem dX11_feed_23 : decode cX11_feed 23 = .ok (.iload 6, 2) := by decide +kernel
theorem dX11_feed_25 : decode cX11_feed 25 = .ok (.bipush 20, 2) := by decide +kernel
theorem dX11_feed_27 : decode cX11_feed 27 = .ok (.if_icmp .ge 90, 3) := by decide +kernel
theorem dX11_feed_30 : decode cX11_feed 30 = .ok (.iload 6, 2) := by decide +kernel
theorem dX11_feed_32 : decode cX11_feed 32 = .ok (.iconst 4, 1) := by decide +kernel
theorem dX11_feed_33 : decode cX11_feed 33 = .ok (.if_icmp .ge 7, 3) := by decide +kernel
theorem dX11_feed_36 : decode cX11_feed 36 = .ok (.iload_n 1, 1) := by decide +kernel
theorem dX11_feed_37 : decode cX11_feed 37 = .ok (.goto 39, 3) := by decide +kernel
theorem dX11_feed_40 : decode cX11_feed 40 = .ok (.iload 6, 2) := by decide +kernel
theorem dX11_feed_42 : decode cX11_feed 42 = .ok (.bipush 8, 2) := by decide +kernel
theorem dX11_feed_44 : decode cX11_feed 44 = .ok (.if_icmp .ge 7, 3) := by decide +kernel
theorem dX11_feed_47 : decode cX11_feed 47 = .ok (.iload_n 2, 1) := by decide +kernel
theorem dX11_feed_48 : decode cX11_feed 48 = .ok (.goto 28, 3) := by decide +kernel
theorem dX11_feed_51 : decode cX11_feed 51 = .ok (.iload 6, 2) := by decide +kernel
theorem dX11_feed_53 : decode cX11_feed 53 = .ok (.bipush 12, 2) := by decide +kernel
theorem dX11_feed_55 : decode cX11_feed 55 = .ok (.if_icmp .ge 7, 3) := by decide +kernel
theorem dX11_feed_58 : decode cX11_feed 58 = .ok (.iload_n 3, 1) := by decide +kernel
theorem dX11_feed_59 : decode cX11_feed 59 = .ok (.goto 17, 3) := by decide +kernel
theorem dX11_feed_62 : decode cX11_feed 62 = .ok (.iload 6, 2) := by decide +kernel
theorem dX11_feed_64 : decode cX11_feed 64 = .ok (.bipush 16, 2) := by decide +kernel
theorem dX11_feed_66 : decode cX11_feed 66 = .ok (.if_icmp .ge 8, 3) := by decide +kernel
theorem dX11_feed_69 : decode cX11_feed 69 = .ok (.iload 4, 2) := by decide +kernel
theorem dX11_feed_71 : decode cX11_feed 71 = .ok (.goto 5, 3) := by decide +kernel
theorem dX11_feed_74 : decode cX11_feed 74 = .ok (.iload 5, 2) := by decide +kernel
theorem dX11_feed_76 : decode cX11_feed 76 = .ok (.istore 7, 2) := by decide +kernel
theorem dX11_feed_78 : decode cX11_feed 78 = .ok (.aload_n 0, 1) := by decide +kernel
theorem dX11_feed_79 : decode cX11_feed 79 = .ok (.getfield 48, 3) := by decide +kernel
theorem dX11_feed_82 : decode cX11_feed 82 = .ok (.aload_n 0, 1) := by decide +kernel
theorem dX11_feed_83 : decode cX11_feed 83 = .ok (.getfield 242, 3) := by decide +kernel
theorem dX11_feed_86 : decode cX11_feed 86 = .ok (.iload 7, 2) := by decide +kernel
theorem dX11_feed_88 : decode cX11_feed 88 = .ok (.bipush 24, 2) := by decide +kernel
theorem dX11_feed_90 : decode cX11_feed 90 = .ok (.bipush 8, 2) := by decide +kernel
theorem dX11_feed_92 : decode cX11_feed 92 = .ok (.iload 6, 2) := by decide +kernel
theorem dX11_feed_94 : decode cX11_feed 94 = .ok (.iconst 4, 1) := by decide +kernel
theorem dX11_feed_95 : decode cX11_feed 95 = .ok (.irem, 1) := by decide +kernel
theorem dX11_feed_96 : decode cX11_feed 96 = .ok (.imul, 1) := by decide +kernel
theorem dX11_feed_97 : decode cX11_feed 97 = .ok (.isub, 1) := by decide +kernel
theorem dX11_feed_98 : decode cX11_feed 98 = .ok (.ishr, 1) := by decide +kernel
theorem dX11_feed_99 : decode cX11_feed 99 = .ok (.i2b, 1) := by decide +kernel
theorem dX11_feed_100 : decode cX11_feed 100 = .ok (.bastore, 1) := by decide +kernel
theorem dX11_feed_101 : decode cX11_feed 101 = .ok (.aload_n 0, 1) := by decide +kernel
theorem dX11_feed_102 : decode cX11_feed 102 = .ok (.dup, 1) := by decide +kernel
theorem dX11_feed_103 : decode cX11_feed 103 = .ok (.getfield 242, 3) := by decide +kernel
theorem dX11_feed_106 : decode cX11_feed 106 = .ok (.iconst 1, 1) := by decide +kernel
theorem dX11_feed_107 : decode cX11_feed 107 = .ok (.iadd, 1) := by decide +kernel
theorem dX11_feed_108 : decode cX11_feed 108 = .ok (.putfield 242, 3) := by decide +kernel
theorem dX11_feed_111 : decode cX11_feed 111 = .ok (.iinc 6 1, 3) := by decide +kernel
theorem dX11_feed_114 : decode cX11_feed 114 = .ok (.goto (-91), 3) := by decide +kernel
theorem dX11_feed_117 : decode cX11_feed 117 = .ok (.aload_n 0, 1) := by decide +kernel
theorem dX11_feed_118 : decode cX11_feed 118 = .ok (.getfield 242, 3) := by decide +kernel
theorem dX11_feed_121 : decode cX11_feed 121 = .ok (.ireturn, 1) := by decide +kernel
set_option maxRecDepth 20000 in
theorem ggX11_book_X11_refused : GoodIn wsX11_book wsX11_refused := goodIn_r _ [13, 6, 7, 126, 127, 128, 129, 130, 131, 132, 133, 134, 135, 136, 137, 138, 139, 140, 141, 142, 143, 144, 145, 146, 147, 148, 149, 150, 151, 152, 153, 154, 155, 156, 157, 158, 159, 160, 161, 162, 163, 164, 165, 166, 167, 168, 169, 170, 171, 172, 173, 174, 175, 176, 177, 178, 179, 180, 181, 182, 183, 184, 185, 186, 187, 188, 189, 190, 191, 192, 193] (by decide +kernel) (by decide +kernel)
set_option maxRecDepth 20000 in
theorem gX11_book_X11_refused : GoodIn wsX11_book (wsV RX11 126 RX11 yX11_refused wsX11_refused) := goodIn_app (goodIn_of _ (by decide +kernel)) ggX11_book_X11_refused
set_option maxRecDepth 20000 in
theorem ggX11_book_X11_reads : GoodIn wsX11_book wsX11_reads := goodIn_r _ [17, 8, 18, 19, 20, 21, 22, 23, 24, 25, 26, 27, 28, 12, 29, 4, 30, 31, 32, 33, 34, 35, 36, 3, 37, 38, 39, 40, 41, 42, 43, 44, 45, 46, 47, 48, 49, 50, 51, 52, 53, 54, 55, 56, 57, 58, 59, 60, 61, 62, 63, 64, 65, 66, 67, 68, 69, 70, 71, 72, 73, 74, 75, 76, 77, 78, 79, 80, 81, 82, 83, 84, 85, 86, 87, 88, 89, 90, 91, 92, 93, 94, 95, 96, 97, 98, 99, 100, 101, 102, 103, 104, 105, 106, 107, 108, 109, 110, 111, 112, 113, 114, 115, 116, 117, 118, 119, 120, 121, 126, 127, 128, 129, 130, 131, 132, 133, 134, 135, 136, 137, 138, 139, 140, 141, 142, 143, 144, 145, 146, 147, 148, 149, 150, 151, 152, 153, 154, 155, 156, 157, 158, 159, 160, 161, 162, 163, 164, 165, 166, 167, 168, 169, 170, 171, 172, 173, 174, 175, 176, 177, 178, 179, 180, 181, 182, 183, 184, 185, 186, 187, 188, 189, 190, 191, 192, 193] (by decide +kernel) (by decide +kernel)
set_option maxRecDepth 20000 in
theorem gX11_book_X11_reads : GoodIn wsX11_book (wsV RX11 248 RX11 yX11_reads wsX11_reads) := goodIn_app (goodIn_of _ (by decide +kernel)) ggX11_book_X11_reads
set_option maxRecDepth 20000 in
theorem ggX11_book_X11_done : GoodIn wsX11_book wsX11_done := goodIn_r _ [125, 6, 7, 126, 127, 128, 129, 130, 131, 132, 133, 134, 135, 136, 137, 138, 139, 140, 141, 142, 143, 144, 145, 146, 147, 148, 149, 150, 151, 152, 153, 154, 155, 156, 157, 158, 159, 160, 161, 162, 163, 164, 165, 166, 167, 168, 169, 170, 171, 172, 173, 174, 175, 176, 177, 178, 179, 180, 181, 182, 183, 184, 185, 186, 187, 188, 189, 190, 191, 192, 193] (by decide +kernel) (by decide +kernel)
set_option maxRecDepth 20000 in
theorem gX11_book_X11_done : GoodIn wsX11_book (wsV RX11 130 RX11 yX11_done wsX11_done) := goodIn_app (goodIn_of _ (by decide +kernel)) ggX11_book_X11_done
theorem dX11_book_0 : decode cX11_book 0 = .ok (.aload_n 0, 1) := by decide +kernel
theorem dX11_book_1 : decode cX11_book 1 = .ok (.iconst 0, 1) := by decide +kernel
theorem dX11_book_2 : decode cX11_book 2 = .ok (.putfield 117, 3) := by decide +kernel
theorem dX11_book_5 : decode cX11_book 5 = .ok (.iload_n 1, 1) := by decide +kernel
theorem dX11_book_6 : decode cX11_book 6 = .ok (.ifCond .lt 11, 3) := by decide +kernel
theorem dX11_book_9 : decode cX11_book 9 = .ok (.iload_n 1, 1) := by decide +kernel
theorem dX11_book_10 : decode cX11_book 10 = .ok (.aload_n 0, 1) := by decide +kernel
theorem dX11_book_11 : decode cX11_book 11 = .ok (.getfield 242, 3) := by decide +kernel
theorem dX11_book_14 : decode cX11_book 14 = .ok (.if_icmp .le 9, 3) := by decide +kernel
theorem dX11_book_17 : decode cX11_book 17 = .ok (.aload_n 0, 1) := by decide +kernel
theorem dX11_book_18 : decode cX11_book 18 = .ok (.iconst 2, 1) := by decide +kernel
theorem dX11_book_19 : decode cX11_book 19 = .ok (.invokevirtual 126, 3) := by decide +kernel
theorem dX11_book_22 : decode cX11_book 22 = .ok (.ireturn, 1) := by decide +kernel
theorem dX11_book_23 : decode cX11_book 23 = .ok (.aload_n 0, 1) := by decide +kernel
theorem dX11_book_24 : decode cX11_book 24 = .ok (.iload_n 1, 1) := by decide +kernel
theorem dX11_book_25 : decode cX11_book 25 = .ok (.putfield 148, 3) := by decide +kernel
theorem dX11_book_28 : decode cX11_book 28 = .ok (.aload_n 0, 1) := by decide +kernel
theorem dX11_book_29 : decode cX11_book 29 = .ok (.iconst 0, 1) := by decide +kernel
theorem dX11_book_30 : decode cX11_book 30 = .ok (.putfield 242, 3) := by decide +kernel
theorem dX11_book_33 : decode cX11_book 33 = .ok (.aload_n 0, 1) := by decide +kernel
theorem dX11_book_34 : decode cX11_book 34 = .ok (.iconst 0, 1) := by decide +kernel
theorem dX11_book_35 : decode cX11_book 35 = .ok (.putfield 163, 3) := by decide +kernel
theorem dX11_book_38 : decode cX11_book 38 = .ok (.aload_n 0, 1) := by decide +kernel
theorem dX11_book_39 : decode cX11_book 39 = .ok (.iconst 0, 1) := by decide +kernel
theorem dX11_book_40 : decode cX11_book 40 = .ok (.putfield 245, 3) := by decide +kernel
theorem dX11_book_43 : decode cX11_book 43 = .ok (.aload_n 0, 1) := by decide +kernel
theorem dX11_book_44 : decode cX11_book 44 = .ok (.invokevirtual 248, 3) := by decide +kernel
theorem dX11_book_47 : decode cX11_book 47 = .ok (.goto 27, 3) := by decide +kernel
theorem dX11_book_50 : decode cX11_book 50 = .ok (.astore_n 2, 1) := by decide +kernel
theorem dX11_book_51 : decode cX11_book 51 = .ok (.aload_n 0, 1) := by decide +kernel
theorem dX11_book_52 : decode cX11_book 52 = .ok (.aload_n 2, 1) := by decide +kernel
theorem dX11_book_53 : decode cX11_book 53 = .ok (.getfield 143, 3) := by decide +kernel
theorem dX11_book_56 : decode cX11_book 56 = .ok (.putfield 245, 3) := by decide +kernel
theorem dX11_book_59 : decode cX11_book 59 = .ok (.aload_n 0, 1) := by decide +kernel
theorem dX11_book_60 : decode cX11_book 60 = .ok (.iconst 4, 1) := by decide +kernel
theorem dX11_book_61 : decode cX11_book 61 = .ok (.putfield 120, 3) := by decide +kernel
theorem dX11_book_64 : decode cX11_book 64 = .ok (.aload_n 0, 1) := by decide +kernel
theorem dX11_book_65 : decode cX11_book 65 = .ok (.aload_n 2, 1) := by decide +kernel
theorem dX11_book_66 : decode cX11_book 66 = .ok (.getfield 145, 3) := by decide +kernel
theorem dX11_book_69 : decode cX11_book 69 = .ok (.putfield 9, 3) := by decide +kernel
theorem dX11_book_72 : decode cX11_book 72 = .ok (.iconst (-1), 1) := by decide +kernel
theorem dX11_book_73 : decode cX11_book 73 = .ok (.ireturn, 1) := by decide +kernel
theorem dX11_book_74 : decode cX11_book 74 = .ok (.aload_n 0, 1) := by decide +kernel
theorem dX11_book_75 : decode cX11_book 75 = .ok (.getfield 201, 3) := by decide +kernel
theorem dX11_book_78 : decode cX11_book 78 = .ok (.iconst 4, 1) := by decide +kernel
theorem dX11_book_79 : decode cX11_book 79 = .ok (.if_icmp .ne 9, 3) := by decide +kernel
theorem dX11_book_82 : decode cX11_book 82 = .ok (.aload_n 0, 1) := by decide +kernel
theorem dX11_book_83 : decode cX11_book 83 = .ok (.iconst 3, 1) := by decide +kernel
theorem dX11_book_84 : decode cX11_book 84 = .ok (.invokevirtual 126, 3) := by decide +kernel
theorem dX11_book_87 : decode cX11_book 87 = .ok (.ireturn, 1) := by decide +kernel
theorem dX11_book_88 : decode cX11_book 88 = .ok (.aload_n 0, 1) := by decide +kernel
theorem dX11_book_89 : decode cX11_book 89 = .ok (.dup, 1) := by decide +kernel
theorem dX11_book_90 : decode cX11_book 90 = .ok (.getfield 201, 3) := by decide +kernel
theorem dX11_book_93 : decode cX11_book 93 = .ok (.iconst 1, 1) := by decide +kernel
theorem dX11_book_94 : decode cX11_book 94 = .ok (.iadd, 1) := by decide +kernel
theorem dX11_book_95 : decode cX11_book 95 = .ok (.putfield 201, 3) := by decide +kernel
theorem dX11_book_98 : decode cX11_book 98 = .ok (.aload_n 0, 1) := by decide +kernel
theorem dX11_book_99 : decode cX11_book 99 = .ok (.aload_n 0, 1) := by decide +kernel
theorem dX11_book_100 : decode cX11_book 100 = .ok (.getfield 201, 3) := by decide +kernel
theorem dX11_book_103 : decode cX11_book 103 = .ok (.iconst 1, 1) := by decide +kernel
theorem dX11_book_104 : decode cX11_book 104 = .ok (.isub, 1) := by decide +kernel
theorem dX11_book_105 : decode cX11_book 105 = .ok (.invokevirtual 130, 3) := by decide +kernel
theorem dX11_book_108 : decode cX11_book 108 = .ok (.ireturn, 1) := by decide +kernel
theorem dX11_fault_0 : decode cX11_fault 0 = .ok (.aload_n 0, 1) := by decide +kernel
theorem dX11_fault_1 : decode cX11_fault 1 = .ok (.iconst 0, 1) := by decide +kernel
theorem dX11_fault_2 : decode cX11_fault 2 = .ok (.putfield 117, 3) := by decide +kernel
theorem dX11_fault_5 : decode cX11_fault 5 = .ok (.aload_n 0, 1) := by decide +kernel
theorem dX11_fault_6 : decode cX11_fault 6 = .ok (.getfield 245, 3) := by decide +kernel
theorem dX11_fault_9 : decode cX11_fault 9 = .ok (.ireturn, 1) := by decide +kernel
theorem dX11_where_0 : decode cX11_where 0 = .ok (.aload_n 0, 1) := by decide +kernel
theorem dX11_where_1 : decode cX11_where 1 = .ok (.iconst 0, 1) := by decide +kernel
theorem dX11_where_2 : decode cX11_where 2 = .ok (.putfield 117, 3) := by decide +kernel
theorem dX11_where_5 : decode cX11_where 5 = .ok (.aload_n 0, 1) := by decide +kernel
theorem dX11_where_6 : decode cX11_where 6 = .ok (.getfield 9, 3) := by decide +kernel
theorem dX11_where_9 : decode cX11_where 9 = .ok (.ireturn, 1) := by decide +kernel
theorem dX11_isBook_0 : decode cX11_isBook 0 = .ok (.iload_n 1, 1) := by decide +kernel
theorem dX11_isBook_1 : decode cX11_isBook 1 = .ok (.ifCond .lt 15, 3) := by decide +kernel
theorem dX11_isBook_4 : decode cX11_isBook 4 = .ok (.iload_n 1, 1) := by decide +kernel
theorem dX11_isBook_5 : decode cX11_isBook 5 = .ok (.aload_n 0, 1) := by decide +kernel
theorem dX11_isBook_6 : decode cX11_isBook 6 = .ok (.getfield 201, 3) := by decide +kernel
theorem dX11_isBook_9 : decode cX11_isBook 9 = .ok (.if_icmp .ge 7, 3) := by decide +kernel
theorem dX11_isBook_12 : decode cX11_isBook 12 = .ok (.iconst 1, 1) := by decide +kernel
theorem dX11_isBook_13 : decode cX11_isBook 13 = .ok (.goto 4, 3) := by decide +kernel
theorem dX11_isBook_16 : decode cX11_isBook 16 = .ok (.iconst 0, 1) := by decide +kernel
theorem dX11_isBook_17 : decode cX11_isBook 17 = .ok (.ireturn, 1) := by decide +kernel
set_option maxRecDepth 20000 in
theorem ggX11_steps_X11_isBook : GoodIn wsX11_steps wsX11_isBook := goodIn_r _ [7, 8, 9, 10, 11, 12, 13, 14, 15, 16, 17, 18, 19, 20, 21, 22, 23, 24, 25, 26, 27, 28, 29, 30, 31, 32, 33, 34, 35, 36, 37, 38, 39, 40, 41, 42, 43, 44, 45, 46, 47, 48, 49, 50, 51, 52, 53, 54, 55, 56, 57, 58, 59, 60, 61, 62, 63, 64, 65, 66, 67, 68, 69, 70, 71, 72, 73, 74, 75, 76] (by decide +kernel) (by decide +kernel)
set_option maxRecDepth 20000 in
theorem gX11_steps_X11_isBook : GoodIn wsX11_steps (wsV RX11 251 RX11 yX11_isBook wsX11_isBook) := goodIn_app (goodIn_of _ (by decide +kernel)) ggX11_steps_X11_isBook
theorem dX11_steps_0 : decode cX11_steps 0 = .ok (.aload_n 0, 1) := by decide +kernel
theorem dX11_steps_1 : decode cX11_steps 1 = .ok (.iconst 0, 1) := by decide +kernel
theorem dX11_steps_2 : decode cX11_steps 2 = .ok (.putfield 117, 3) := by decide +kernel
theorem dX11_steps_5 : decode cX11_steps 5 = .ok (.aload_n 0, 1) := by decide +kernel
theorem dX11_steps_6 : decode cX11_steps 6 = .ok (.iload_n 1, 1) := by decide +kernel
theorem dX11_steps_7 : decode cX11_steps 7 = .ok (.invokevirtual 251, 3) := by decide +kernel
theorem dX11_steps_10 : decode cX11_steps 10 = .ok (.ifCond .eq 12, 3) := by decide +kernel
theorem dX11_steps_13 : decode cX11_steps 13 = .ok (.aload_n 0, 1) := by decide +kernel
theorem dX11_steps_14 : decode cX11_steps 14 = .ok (.getfield 23, 3) := by decide +kernel
theorem dX11_steps_17 : decode cX11_steps 17 = .ok (.iload_n 1, 1) := by decide +kernel
theorem dX11_steps_18 : decode cX11_steps 18 = .ok (.iaload, 1) := by decide +kernel
theorem dX11_steps_19 : decode cX11_steps 19 = .ok (.goto 4, 3) := by decide +kernel
theorem dX11_steps_22 : decode cX11_steps 22 = .ok (.iconst (-1), 1) := by decide +kernel
theorem dX11_steps_23 : decode cX11_steps 23 = .ok (.ireturn, 1) := by decide +kernel
set_option maxRecDepth 20000 in
theorem ggX11_step_X11_isBook : GoodIn wsX11_step wsX11_isBook := goodIn_r _ [12, 13, 14, 15, 16, 17, 18, 19, 20, 21, 22, 23, 24, 25, 26, 27, 28, 29, 30, 31, 32, 33, 34, 35, 36, 37, 38, 39, 40, 41, 42, 43, 44, 45, 46, 47, 48, 49, 50, 51, 52, 53, 54, 55, 56, 57, 58, 59, 60, 61, 62, 63, 64, 65, 66, 67, 68, 69, 70, 71, 72, 73, 74, 75, 76, 77, 78, 79, 80, 81] (by decide +kernel) (by decide +kernel)
set_option maxRecDepth 20000 in
theorem gX11_step_X11_isBook : GoodIn wsX11_step (wsV RX11 251 RX11 yX11_isBook wsX11_isBook) := goodIn_app (goodIn_of _ (by decide +kernel)) ggX11_step_X11_isBook
theorem dX11_step_0 : decode cX11_step 0 = .ok (.aload_n 0, 1) := by decide +kernel
theorem dX11_step_1 : decode cX11_step 1 = .ok (.iconst 0, 1) := by decide +kernel
theorem dX11_step_2 : decode cX11_step 2 = .ok (.putfield 117, 3) := by decide +kernel
theorem dX11_step_5 : decode cX11_step 5 = .ok (.aload_n 0, 1) := by decide +kernel
theorem dX11_step_6 : decode cX11_step 6 = .ok (.iload_n 1, 1) := by decide +kernel
theorem dX11_step_7 : decode cX11_step 7 = .ok (.invokevirtual 251, 3) := by decide +kernel
theorem dX11_step_10 : decode cX11_step 10 = .ok (.ifCond .eq 17, 3) := by decide +kernel
theorem dX11_step_13 : decode cX11_step 13 = .ok (.iload_n 2, 1) := by decide +kernel
theorem dX11_step_14 : decode cX11_step 14 = .ok (.ifCond .lt 13, 3) := by decide +kernel
theorem dX11_step_17 : decode cX11_step 17 = .ok (.iload_n 2, 1) := by decide +kernel
theorem dX11_step_18 : decode cX11_step 18 = .ok (.aload_n 0, 1) := by decide +kernel
theorem dX11_step_19 : decode cX11_step 19 = .ok (.getfield 23, 3) := by decide +kernel
theorem dX11_step_22 : decode cX11_step 22 = .ok (.iload_n 1, 1) := by decide +kernel
theorem dX11_step_23 : decode cX11_step 23 = .ok (.iaload, 1) := by decide +kernel
theorem dX11_step_24 : decode cX11_step 24 = .ok (.if_icmp .lt 5, 3) := by decide +kernel
theorem dX11_step_27 : decode cX11_step 27 = .ok (.iconst (-1), 1) := by decide +kernel
theorem dX11_step_28 : decode cX11_step 28 = .ok (.ireturn, 1) := by decide +kernel
theorem dX11_step_29 : decode cX11_step 29 = .ok (.bipush 24, 2) := by decide +kernel
theorem dX11_step_31 : decode cX11_step 31 = .ok (.iload_n 1, 1) := by decide +kernel
theorem dX11_step_32 : decode cX11_step 32 = .ok (.imul, 1) := by decide +kernel
theorem dX11_step_33 : decode cX11_step 33 = .ok (.iload_n 2, 1) := by decide +kernel
theorem dX11_step_34 : decode cX11_step 34 = .ok (.iadd, 1) := by decide +kernel
theorem dX11_step_35 : decode cX11_step 35 = .ok (.istore 4, 2) := by decide +kernel
theorem dX11_step_37 : decode cX11_step 37 = .ok (.iload_n 3, 1) := by decide +kernel
theorem dX11_step_38 : decode cX11_step 38 = .ok (.tableswitch 74 0 4 #[34, 42, 50, 58, 66], 34) := by decide +kernel
theorem dX11_step_72 : decode cX11_step 72 = .ok (.aload_n 0, 1) := by decide +kernel
theorem dX11_step_73 : decode cX11_step 73 = .ok (.getfield 26, 3) := by decide +kernel
theorem dX11_step_76 : decode cX11_step 76 = .ok (.iload 4, 2) := by decide +kernel
theorem dX11_step_78 : decode cX11_step 78 = .ok (.iaload, 1) := by decide +kernel
theorem dX11_step_79 : decode cX11_step 79 = .ok (.ireturn, 1) := by decide +kernel
theorem dX11_step_80 : decode cX11_step 80 = .ok (.aload_n 0, 1) := by decide +kernel
theorem dX11_step_81 : decode cX11_step 81 = .ok (.getfield 29, 3) := by decide +kernel
theorem dX11_step_84 : decode cX11_step 84 = .ok (.iload 4, 2) := by decide +kernel
theorem dX11_step_86 : decode cX11_step 86 = .ok (.iaload, 1) := by decide +kernel
theorem dX11_step_87 : decode cX11_step 87 = .ok (.ireturn, 1) := by decide +kernel
theorem dX11_step_88 : decode cX11_step 88 = .ok (.aload_n 0, 1) := by decide +kernel
theorem dX11_step_89 : decode cX11_step 89 = .ok (.getfield 32, 3) := by decide +kernel
theorem dX11_step_92 : decode cX11_step 92 = .ok (.iload 4, 2) := by decide +kernel
theorem dX11_step_94 : decode cX11_step 94 = .ok (.iaload, 1) := by decide +kernel
theorem dX11_step_95 : decode cX11_step 95 = .ok (.ireturn, 1) := by decide +kernel
theorem dX11_step_96 : decode cX11_step 96 = .ok (.aload_n 0, 1) := by decide +kernel
theorem dX11_step_97 : decode cX11_step 97 = .ok (.getfield 35, 3) := by decide +kernel
theorem dX11_step_100 : decode cX11_step 100 = .ok (.iload 4, 2) := by decide +kernel
theorem dX11_step_102 : decode cX11_step 102 = .ok (.iaload, 1) := by decide +kernel
theorem dX11_step_103 : decode cX11_step 103 = .ok (.ireturn, 1) := by decide +kernel
theorem dX11_step_104 : decode cX11_step 104 = .ok (.aload_n 0, 1) := by decide +kernel
theorem dX11_step_105 : decode cX11_step 105 = .ok (.getfield 38, 3) := by decide +kernel
theorem dX11_step_108 : decode cX11_step 108 = .ok (.iload 4, 2) := by decide +kernel
theorem dX11_step_110 : decode cX11_step 110 = .ok (.iaload, 1) := by decide +kernel
theorem dX11_step_111 : decode cX11_step 111 = .ok (.ireturn, 1) := by decide +kernel
theorem dX11_step_112 : decode cX11_step 112 = .ok (.iconst (-1), 1) := by decide +kernel
theorem dX11_step_113 : decode cX11_step 113 = .ok (.ireturn, 1) := by decide +kernel
theorem dX11_isThere_0 : decode cX11_isThere 0 = .ok (.iconst 0, 1) := by decide +kernel
theorem dX11_isThere_1 : decode cX11_isThere 1 = .ok (.istore_n 3, 1) := by decide +kernel
theorem dX11_isThere_2 : decode cX11_isThere 2 = .ok (.iconst 0, 1) := by decide +kernel
theorem dX11_isThere_3 : decode cX11_isThere 3 = .ok (.istore 4, 2) := by decide +kernel
theorem dX11_isThere_5 : decode cX11_isThere 5 = .ok (.iload 4, 2) := by decide +kernel
theorem dX11_isThere_7 : decode cX11_isThere 7 = .ok (.aload_n 0, 1) := by decide +kernel
theorem dX11_isThere_8 : decode cX11_isThere 8 = .ok (.getfield 140, 3) := by decide +kernel
theorem dX11_isThere_11 : decode cX11_isThere 11 = .ok (.if_icmp .ge 43, 3) := by decide +kernel
theorem dX11_isThere_14 : decode cX11_isThere 14 = .ok (.iload_n 3, 1) := by decide +kernel
theorem dX11_isThere_15 : decode cX11_isThere 15 = .ok (.ifCond .ne 27, 3) := by decide +kernel
theorem dX11_isThere_18 : decode cX11_isThere 18 = .ok (.iload_n 2, 1) := by decide +kernel
theorem dX11_isThere_19 : decode cX11_isThere 19 = .ok (.iload 4, 2) := by decide +kernel
theorem dX11_isThere_21 : decode cX11_isThere 21 = .ok (.ishr, 1) := by decide +kernel
theorem dX11_isThere_22 : decode cX11_isThere 22 = .ok (.iconst 1, 1) := by decide +kernel
theorem dX11_isThere_23 : decode cX11_isThere 23 = .ok (.iand, 1) := by decide +kernel
theorem dX11_isThere_24 : decode cX11_isThere 24 = .ok (.ifCond .ne 22, 3) := by decide +kernel
theorem dX11_isThere_27 : decode cX11_isThere 27 = .ok (.aload_n 0, 1) := by decide +kernel
theorem dX11_isThere_28 : decode cX11_isThere 28 = .ok (.getfield 20, 3) := by decide +kernel
theorem dX11_isThere_31 : decode cX11_isThere 31 = .ok (.iload 4, 2) := by decide +kernel
theorem dX11_isThere_33 : decode cX11_isThere 33 = .ok (.iaload, 1) := by decide +kernel
theorem dX11_isThere_34 : decode cX11_isThere 34 = .ok (.iload_n 1, 1) := by decide +kernel
theorem dX11_isThere_35 : decode cX11_isThere 35 = .ok (.ishr, 1) := by decide +kernel
theorem dX11_isThere_36 : decode cX11_isThere 36 = .ok (.iconst 1, 1) := by decide +kernel
theorem dX11_isThere_37 : decode cX11_isThere 37 = .ok (.iand, 1) := by decide +kernel
theorem dX11_isThere_38 : decode cX11_isThere 38 = .ok (.iconst 1, 1) := by decide +kernel
theorem dX11_isThere_39 : decode cX11_isThere 39 = .ok (.if_icmp .ne 7, 3) := by decide +kernel
theorem dX11_isThere_42 : decode cX11_isThere 42 = .ok (.iconst 1, 1) := by decide +kernel
theorem dX11_isThere_43 : decode cX11_isThere 43 = .ok (.goto 4, 3) := by decide +kernel
theorem dX11_isThere_46 : decode cX11_isThere 46 = .ok (.iconst 0, 1) := by decide +kernel
theorem dX11_isThere_47 : decode cX11_isThere 47 = .ok (.istore_n 3, 1) := by decide +kernel
theorem dX11_isThere_48 : decode cX11_isThere 48 = .ok (.iinc 4 1, 3) := by decide +kernel
theorem dX11_isThere_51 : decode cX11_isThere 51 = .ok (.goto (-46), 3) := by decide +kernel
theorem dX11_isThere_54 : decode cX11_isThere 54 = .ok (.iload_n 3, 1) := by decide +kernel
theorem dX11_isThere_55 : decode cX11_isThere 55 = .ok (.ireturn, 1) := by decide +kernel
theorem dX11_tellsWrong_0 : decode cX11_tellsWrong 0 = .ok (.iload_n 2, 1) := by decide +kernel
theorem dX11_tellsWrong_1 : decode cX11_tellsWrong 1 = .ok (.aload_n 0, 1) := by decide +kernel
theorem dX11_tellsWrong_2 : decode cX11_tellsWrong 2 = .ok (.getfield 16, 3) := by decide +kernel
theorem dX11_tellsWrong_5 : decode cX11_tellsWrong 5 = .ok (.iload_n 1, 1) := by decide +kernel
theorem dX11_tellsWrong_6 : decode cX11_tellsWrong 6 = .ok (.iaload, 1) := by decide +kernel
theorem dX11_tellsWrong_7 : decode cX11_tellsWrong 7 = .ok (.ishr, 1) := by decide +kernel
theorem dX11_tellsWrong_8 : decode cX11_tellsWrong 8 = .ok (.iload_n 3, 1) := by decide +kernel
theorem dX11_tellsWrong_9 : decode cX11_tellsWrong 9 = .ok (.iload_n 1, 1) := by decide +kernel
theorem dX11_tellsWrong_10 : decode cX11_tellsWrong 10 = .ok (.ishr, 1) := by decide +kernel
theorem dX11_tellsWrong_11 : decode cX11_tellsWrong 11 = .ok (.ixor, 1) := by decide +kernel
theorem dX11_tellsWrong_12 : decode cX11_tellsWrong 12 = .ok (.iconst 1, 1) := by decide +kernel
theorem dX11_tellsWrong_13 : decode cX11_tellsWrong 13 = .ok (.iand, 1) := by decide +kernel
theorem dX11_tellsWrong_14 : decode cX11_tellsWrong 14 = .ok (.iconst 1, 1) := by decide +kernel
theorem dX11_tellsWrong_15 : decode cX11_tellsWrong 15 = .ok (.if_icmp .ne 7, 3) := by decide +kernel
theorem dX11_tellsWrong_18 : decode cX11_tellsWrong 18 = .ok (.iconst 1, 1) := by decide +kernel
theorem dX11_tellsWrong_19 : decode cX11_tellsWrong 19 = .ok (.goto 4, 3) := by decide +kernel
theorem dX11_tellsWrong_22 : decode cX11_tellsWrong 22 = .ok (.iconst 0, 1) := by decide +kernel
theorem dX11_tellsWrong_23 : decode cX11_tellsWrong 23 = .ok (.ireturn, 1) := by decide +kernel
set_option maxRecDepth 20000 in
theorem ggX11_isCalm_X11_allFacts : GoodIn wsX11_isCalm wsX11_allFacts := goodIn_r _ [6, 7, 8, 9, 10, 11, 12, 13, 14, 15, 16, 17, 18, 19, 20, 21, 22, 23, 24, 25, 26, 27, 28, 29, 30, 31, 32, 33, 34, 35, 36, 37, 38, 39, 40, 41, 42, 43, 44, 45, 46, 47, 48, 49, 50, 51, 52, 53, 54, 55, 56, 57, 58, 59, 60, 61, 62, 63, 64, 65, 66, 67, 68, 69, 70, 71, 72, 73, 74, 75] (by decide +kernel) (by decide +kernel)
set_option maxRecDepth 20000 in
theorem gX11_isCalm_X11_allFacts : GoodIn wsX11_isCalm (wsV RX11 254 RX11 yX11_allFacts wsX11_allFacts) := goodIn_app (goodIn_of _ (by decide +kernel)) ggX11_isCalm_X11_allFacts
theorem dX11_isCalm_0 : decode cX11_isCalm 0 = .ok (.iload_n 1, 1) := by decide +kernel
theorem dX11_isCalm_1 : decode cX11_isCalm 1 = .ok (.aload_n 0, 1) := by decide +kernel
theorem dX11_isCalm_2 : decode cX11_isCalm 2 = .ok (.getfield 13, 3) := by decide +kernel
theorem dX11_isCalm_5 : decode cX11_isCalm 5 = .ok (.iand, 1) := by decide +kernel
theorem dX11_isCalm_6 : decode cX11_isCalm 6 = .ok (.aload_n 0, 1) := by decide +kernel
theorem dX11_isCalm_7 : decode cX11_isCalm 7 = .ok (.invokevirtual 254, 3) := by decide +kernel
theorem dX11_isCalm_10 : decode cX11_isCalm 10 = .ok (.iand, 1) := by decide +kernel
theorem dX11_isCalm_11 : decode cX11_isCalm 11 = .ok (.ifCond .ne 7, 3) := by decide +kernel
theorem dX11_isCalm_14 : decode cX11_isCalm 14 = .ok (.iconst 1, 1) := by decide +kernel
theorem dX11_isCalm_15 : decode cX11_isCalm 15 = .ok (.goto 4, 3) := by decide +kernel
theorem dX11_isCalm_18 : decode cX11_isCalm 18 = .ok (.iconst 0, 1) := by decide +kernel
theorem dX11_isCalm_19 : decode cX11_isCalm 19 = .ok (.ireturn, 1) := by decide +kernel
theorem dX11_changed_0 : decode cX11_changed 0 = .ok (.aload_n 0, 1) := by decide +kernel
theorem dX11_changed_1 : decode cX11_changed 1 = .ok (.getfield 26, 3) := by decide +kernel
theorem dX11_changed_4 : decode cX11_changed 4 = .ok (.iload_n 1, 1) := by decide +kernel
theorem dX11_changed_5 : decode cX11_changed 5 = .ok (.iaload, 1) := by decide +kernel
theorem dX11_changed_6 : decode cX11_changed 6 = .ok (.ifCond .ne 18, 3) := by decide +kernel
theorem dX11_changed_9 : decode cX11_changed 9 = .ok (.iload_n 2, 1) := by decide +kernel
theorem dX11_changed_10 : decode cX11_changed 10 = .ok (.iconst 1, 1) := by decide +kernel
theorem dX11_changed_11 : decode cX11_changed 11 = .ok (.aload_n 0, 1) := by decide +kernel
theorem dX11_changed_12 : decode cX11_changed 12 = .ok (.getfield 32, 3) := by decide +kernel
theorem dX11_changed_15 : decode cX11_changed 15 = .ok (.iload_n 1, 1) := by decide +kernel
theorem dX11_changed_16 : decode cX11_changed 16 = .ok (.iaload, 1) := by decide +kernel
theorem dX11_changed_17 : decode cX11_changed 17 = .ok (.ishl, 1) := by decide +kernel
theorem dX11_changed_18 : decode cX11_changed 18 = .ok (.iconst (-1), 1) := by decide +kernel
theorem dX11_changed_19 : decode cX11_changed 19 = .ok (.ixor, 1) := by decide +kernel
theorem dX11_changed_20 : decode cX11_changed 20 = .ok (.iand, 1) := by decide +kernel
theorem dX11_changed_21 : decode cX11_changed 21 = .ok (.goto 13, 3) := by decide +kernel
theorem dX11_changed_24 : decode cX11_changed 24 = .ok (.iload_n 2, 1) := by decide +kernel
theorem dX11_changed_25 : decode cX11_changed 25 = .ok (.iconst 1, 1) := by decide +kernel
theorem dX11_changed_26 : decode cX11_changed 26 = .ok (.aload_n 0, 1) := by decide +kernel
theorem dX11_changed_27 : decode cX11_changed 27 = .ok (.getfield 32, 3) := by decide +kernel
theorem dX11_changed_30 : decode cX11_changed 30 = .ok (.iload_n 1, 1) := by decide +kernel
theorem dX11_changed_31 : decode cX11_changed 31 = .ok (.iaload, 1) := by decide +kernel
theorem dX11_changed_32 : decode cX11_changed 32 = .ok (.ishl, 1) := by decide +kernel
theorem dX11_changed_33 : decode cX11_changed 33 = .ok (.ior, 1) := by decide +kernel
theorem dX11_changed_34 : decode cX11_changed 34 = .ok (.ireturn, 1) := by decide +kernel
set_option maxRecDepth 20000 in
theorem ggX11_plays_X11_allFacts : GoodIn wsX11_plays wsX11_allFacts := goodIn_r _ [19, 20, 41, 42, 43, 44, 45, 46, 47, 48, 49, 50, 51, 52, 53, 54, 55, 56, 57, 58, 59, 60, 61, 62, 63, 64, 65, 66, 67, 68, 69, 70, 71, 72, 73, 74, 75, 76, 77, 78, 79, 80, 81, 82, 83, 84, 85, 86, 87, 88, 89, 90, 91, 92, 93, 94, 95, 96, 97, 98, 99, 100, 101, 102, 103, 104, 105, 106, 107, 108] (by decide +kernel) (by decide +kernel)
set_option maxRecDepth 20000 in
theorem gX11_plays_X11_allFacts : GoodIn wsX11_plays (wsV RX11 254 RX11 yX11_allFacts wsX11_allFacts) := goodIn_app (goodIn_of _ (by decide +kernel)) ggX11_plays_X11_allFacts
set_option maxRecDepth 20000 in
theorem ggX11_plays_X11_isCalm : GoodIn wsX11_plays wsX11_isCalm := goodIn_r _ [24, 25, 15, 16, 17, 18, 19, 20, 41, 42, 43, 44, 45, 46, 47, 48, 49, 50, 51, 52, 53, 54, 55, 56, 57, 58, 59, 60, 61, 62, 63, 64, 65, 66, 67, 68, 69, 70, 71, 72, 73, 74, 75, 76, 77, 78, 79, 80, 81, 82, 83, 84, 85, 86, 87, 88, 89, 90, 91, 92, 93, 94, 95, 96, 97, 98, 99, 100, 101, 102, 103, 104, 105, 106, 107, 108] (by decide +kernel) (by decide +kernel)
set_option maxRecDepth 20000 in
theorem gX11_plays_X11_isCalm : GoodIn wsX11_plays (wsV RX11 275 RX11 yX11_isCalm wsX11_isCalm) := goodIn_app (goodIn_of _ (by decide +kernel)) ggX11_plays_X11_isCalm
set_option maxRecDepth 20000 in
theorem ggX11_plays_X11_tellsWrong : GoodIn wsX11_plays wsX11_tellsWrong := goodIn_r _ [29, 30, 41, 42, 43, 44, 45, 46, 47, 48, 49, 50, 51, 52, 53, 54, 55, 56, 57, 58, 59, 60, 61, 62, 63, 64, 65, 66, 67, 68, 69, 70, 71, 72, 73, 74, 75, 76, 77, 78, 79, 80, 81, 82, 83, 84, 85, 86, 87, 88, 89, 90, 91, 92, 93, 94, 95, 96, 97, 98, 99, 100, 101, 102, 103, 104, 105, 106, 107, 108] (by decide +kernel) (by decide +kernel)
set_option maxRecDepth 20000 in
theorem gX11_plays_X11_tellsWrong : GoodIn wsX11_plays (wsV RX11 278 RX11 yX11_tellsWrong wsX11_tellsWrong) := goodIn_app (goodIn_of _ (by decide +kernel)) ggX11_plays_X11_tellsWrong
set_option maxRecDepth 20000 in
theorem ggX11_plays_X11_isThere : GoodIn wsX11_plays wsX11_isThere := goodIn_r _ [34, 35, 36, 41, 42, 43, 44, 45, 46, 47, 48, 49, 50, 51, 52, 53, 54, 55, 56, 57, 58, 59, 60, 61, 62, 63, 64, 65, 66, 67, 68, 69, 70, 71, 72, 73, 74, 75, 76, 77, 78, 79, 80, 81, 82, 83, 84, 85, 86, 87, 88, 89, 90, 91, 92, 93, 94, 95, 96, 97, 98, 99, 100, 101, 102, 103, 104, 105, 106, 107, 108] (by decide +kernel) (by decide +kernel)
set_option maxRecDepth 20000 in
theorem gX11_plays_X11_isThere : GoodIn wsX11_plays (wsV RX11 281 RX11 yX11_isThere wsX11_isThere) := goodIn_app (goodIn_of _ (by decide +kernel)) ggX11_plays_X11_isThere
set_option maxRecDepth 20000 in
theorem ggX11_plays_X11_changed : GoodIn wsX11_plays wsX11_changed := goodIn_r _ [40, 10, 12, 41, 42, 43, 44, 45, 46, 47, 48, 49, 50, 51, 52, 53, 54, 55, 56, 57, 58, 59, 60, 61, 62, 63, 64, 65, 66, 67, 68, 69, 70, 71, 72, 73, 74, 75, 76, 77, 78, 79, 80, 81, 82, 83, 84, 85, 86, 87, 88, 89, 90, 91, 92, 93, 94, 95, 96, 97, 98, 99, 100, 101, 102, 103, 104, 105, 106, 107, 108] (by decide +kernel) (by decide +kernel)
set_option maxRecDepth 20000 in
theorem gX11_plays_X11_changed : GoodIn wsX11_plays (wsV RX11 285 RX11 yX11_changed wsX11_changed) := goodIn_app (goodIn_of _ (by decide +kernel)) ggX11_plays_X11_changed
theorem dX11_plays_0 : decode cX11_plays 0 = .ok (.aload_n 0, 1) := by decide +kernel
theorem dX11_plays_1 : decode cX11_plays 1 = .ok (.dup, 1) := by decide +kernel
theorem dX11_plays_2 : decode cX11_plays 2 = .ok (.getfield 257, 3) := by decide +kernel
theorem dX11_plays_5 : decode cX11_plays 5 = .ok (.iconst 1, 1) := by decide +kernel
theorem dX11_plays_6 : decode cX11_plays 6 = .ok (.iadd, 1) := by decide +kernel
theorem dX11_plays_7 : decode cX11_plays 7 = .ok (.putfield 257, 3) := by decide +kernel
theorem dX11_plays_10 : decode cX11_plays 10 = .ok (.aload_n 0, 1) := by decide +kernel
theorem dX11_plays_11 : decode cX11_plays 11 = .ok (.iload_n 2, 1) := by decide +kernel
theorem dX11_plays_12 : decode cX11_plays 12 = .ok (.aload_n 0, 1) := by decide +kernel
theorem dX11_plays_13 : decode cX11_plays 13 = .ok (.invokevirtual 254, 3) := by decide +kernel
theorem dX11_plays_16 : decode cX11_plays 16 = .ok (.iand, 1) := by decide +kernel
theorem dX11_plays_17 : decode cX11_plays 17 = .ok (.putfield 260, 3) := by decide +kernel
theorem dX11_plays_20 : decode cX11_plays 20 = .ok (.aload_n 0, 1) := by decide +kernel
theorem dX11_plays_21 : decode cX11_plays 21 = .ok (.iconst 0, 1) := by decide +kernel
theorem dX11_plays_22 : decode cX11_plays 22 = .ok (.putfield 263, 3) := by decide +kernel
theorem dX11_plays_25 : decode cX11_plays 25 = .ok (.aload_n 0, 1) := by decide +kernel
theorem dX11_plays_26 : decode cX11_plays 26 = .ok (.iconst 0, 1) := by decide +kernel
theorem dX11_plays_27 : decode cX11_plays 27 = .ok (.putfield 266, 3) := by decide +kernel
theorem dX11_plays_30 : decode cX11_plays 30 = .ok (.iconst 0, 1) := by decide +kernel
theorem dX11_plays_31 : decode cX11_plays 31 = .ok (.istore 5, 2) := by decide +kernel
theorem dX11_plays_33 : decode cX11_plays 33 = .ok (.aload_n 0, 1) := by decide +kernel
theorem dX11_plays_34 : decode cX11_plays 34 = .ok (.iconst (-1), 1) := by decide +kernel
theorem dX11_plays_35 : decode cX11_plays 35 = .ok (.putfield 269, 3) := by decide +kernel
theorem dX11_plays_38 : decode cX11_plays 38 = .ok (.aload_n 0, 1) := by decide +kernel
theorem dX11_plays_39 : decode cX11_plays 39 = .ok (.getfield 269, 3) := by decide +kernel
theorem dX11_plays_42 : decode cX11_plays 42 = .ok (.iconst (-1), 1) := by decide +kernel
theorem dX11_plays_43 : decode cX11_plays 43 = .ok (.if_icmp .ne 383, 3) := by decide +kernel
theorem dX11_plays_46 : decode cX11_plays 46 = .ok (.aload_n 0, 1) := by decide +kernel
theorem dX11_plays_47 : decode cX11_plays 47 = .ok (.iload 5, 2) := by decide +kernel
theorem dX11_plays_49 : decode cX11_plays 49 = .ok (.putfield 272, 3) := by decide +kernel
theorem dX11_plays_52 : decode cX11_plays 52 = .ok (.iload 5, 2) := by decide +kernel
theorem dX11_plays_54 : decode cX11_plays 54 = .ok (.aload_n 0, 1) := by decide +kernel
theorem dX11_plays_55 : decode cX11_plays 55 = .ok (.getfield 23, 3) := by decide +kernel
theorem dX11_plays_58 : decode cX11_plays 58 = .ok (.iload_n 1, 1) := by decide +kernel
theorem dX11_plays_59 : decode cX11_plays 59 = .ok (.iaload, 1) := by decide +kernel
theorem dX11_plays_60 : decode cX11_plays 60 = .ok (.if_icmp .ne 11, 3) := by decide +kernel
theorem dX11_plays_63 : decode cX11_plays 63 = .ok (.aload_n 0, 1) := by decide +kernel
theorem dX11_plays_64 : decode cX11_plays 64 = .ok (.iconst 5, 1) := by decide +kernel
theorem dX11_plays_65 : decode cX11_plays 65 = .ok (.putfield 269, 3) := by decide +kernel
theorem dX11_plays_68 : decode cX11_plays 68 = .ok (.goto 358, 3) := by decide +kernel
theorem dX11_plays_71 : decode cX11_plays 71 = .ok (.bipush 24, 2) := by decide +kernel
theorem dX11_plays_73 : decode cX11_plays 73 = .ok (.iload_n 1, 1) := by decide +kernel
theorem dX11_plays_74 : decode cX11_plays 74 = .ok (.imul, 1) := by decide +kernel
theorem dX11_plays_75 : decode cX11_plays 75 = .ok (.iload 5, 2) := by decide +kernel
theorem dX11_plays_77 : decode cX11_plays 77 = .ok (.iadd, 1) := by decide +kernel
theorem dX11_plays_78 : decode cX11_plays 78 = .ok (.istore 6, 2) := by decide +kernel
theorem dX11_plays_80 : decode cX11_plays 80 = .ok (.aload_n 0, 1) := by decide +kernel
theorem dX11_plays_81 : decode cX11_plays 81 = .ok (.getfield 266, 3) := by decide +kernel
theorem dX11_plays_84 : decode cX11_plays 84 = .ok (.sipush 2000, 3) := by decide +kernel
theorem dX11_plays_87 : decode cX11_plays 87 = .ok (.if_icmp .ge 14, 3) := by decide +kernel
theorem dX11_plays_90 : decode cX11_plays 90 = .ok (.aload_n 0, 1) := by decide +kernel
theorem dX11_plays_91 : decode cX11_plays 91 = .ok (.getfield 61, 3) := by decide +kernel
theorem dX11_plays_94 : decode cX11_plays 94 = .ok (.aload_n 0, 1) := by decide +kernel
theorem dX11_plays_95 : decode cX11_plays 95 = .ok (.getfield 266, 3) := by decide +kernel
theorem dX11_plays_98 : decode cX11_plays 98 = .ok (.iload 5, 2) := by decide +kernel
theorem dX11_plays_100 : decode cX11_plays 100 = .ok (.iastore, 1) := by decide +kernel
theorem dX11_plays_101 : decode cX11_plays 101 = .ok (.aload_n 0, 1) := by decide +kernel
theorem dX11_plays_102 : decode cX11_plays 102 = .ok (.dup, 1) := by decide +kernel
theorem dX11_plays_103 : decode cX11_plays 103 = .ok (.getfield 266, 3) := by decide +kernel
theorem dX11_plays_106 : decode cX11_plays 106 = .ok (.iconst 1, 1) := by decide +kernel
theorem dX11_plays_107 : decode cX11_plays 107 = .ok (.iadd, 1) := by decide +kernel
theorem dX11_plays_108 : decode cX11_plays 108 = .ok (.putfield 266, 3) := by decide +kernel
theorem dX11_plays_111 : decode cX11_plays 111 = .ok (.aload_n 0, 1) := by decide +kernel
theorem dX11_plays_112 : decode cX11_plays 112 = .ok (.getfield 55, 3) := by decide +kernel
theorem dX11_plays_115 : decode cX11_plays 115 = .ok (.sipush 256, 3) := by decide +kernel
theorem dX11_plays_118 : decode cX11_plays 118 = .ok (.iload 5, 2) := by decide +kernel
theorem dX11_plays_120 : decode cX11_plays 120 = .ok (.imul, 1) := by decide +kernel
theorem dX11_plays_121 : decode cX11_plays 121 = .ok (.aload_n 0, 1) := by decide +kernel
theorem dX11_plays_122 : decode cX11_plays 122 = .ok (.getfield 260, 3) := by decide +kernel
theorem dX11_plays_125 : decode cX11_plays 125 = .ok (.iadd, 1) := by decide +kernel
theorem dX11_plays_126 : decode cX11_plays 126 = .ok (.iaload, 1) := by decide +kernel
theorem dX11_plays_127 : decode cX11_plays 127 = .ok (.aload_n 0, 1) := by decide +kernel
theorem dX11_plays_128 : decode cX11_plays 128 = .ok (.getfield 257, 3) := by decide +kernel
theorem dX11_plays_131 : decode cX11_plays 131 = .ok (.if_icmp .ne 11, 3) := by decide +kernel
theorem dX11_plays_134 : decode cX11_plays 134 = .ok (.aload_n 0, 1) := by decide +kernel
theorem dX11_plays_135 : decode cX11_plays 135 = .ok (.iconst 4, 1) := by decide +kernel
theorem dX11_plays_136 : decode cX11_plays 136 = .ok (.putfield 269, 3) := by decide +kernel
theorem dX11_plays_139 : decode cX11_plays 139 = .ok (.goto 287, 3) := by decide +kernel
theorem dX11_plays_142 : decode cX11_plays 142 = .ok (.aload_n 0, 1) := by decide +kernel
theorem dX11_plays_143 : decode cX11_plays 143 = .ok (.getfield 55, 3) := by decide +kernel
theorem dX11_plays_146 : decode cX11_plays 146 = .ok (.sipush 256, 3) := by decide +kernel
theorem dX11_plays_149 : decode cX11_plays 149 = .ok (.iload 5, 2) := by decide +kernel
theorem dX11_plays_151 : decode cX11_plays 151 = .ok (.imul, 1) := by decide +kernel
theorem dX11_plays_152 : decode cX11_plays 152 = .ok (.aload_n 0, 1) := by decide +kernel
theorem dX11_plays_153 : decode cX11_plays 153 = .ok (.getfield 260, 3) := by decide +kernel
theorem dX11_plays_156 : decode cX11_plays 156 = .ok (.iadd, 1) := by decide +kernel
theorem dX11_plays_157 : decode cX11_plays 157 = .ok (.aload_n 0, 1) := by decide +kernel
theorem dX11_plays_158 : decode cX11_plays 158 = .ok (.getfield 257, 3) := by decide +kernel
theorem dX11_plays_161 : decode cX11_plays 161 = .ok (.iastore, 1) := by decide +kernel
theorem dX11_plays_162 : decode cX11_plays 162 = .ok (.iinc 5 1, 3) := by decide +kernel
theorem dX11_plays_165 : decode cX11_plays 165 = .ok (.aload_n 0, 1) := by decide +kernel
theorem dX11_plays_166 : decode cX11_plays 166 = .ok (.getfield 26, 3) := by decide +kernel
theorem dX11_plays_169 : decode cX11_plays 169 = .ok (.iload 6, 2) := by decide +kernel
theorem dX11_plays_171 : decode cX11_plays 171 = .ok (.iaload, 1) := by decide +kernel
theorem dX11_plays_172 : decode cX11_plays 172 = .ok (.tableswitch 137 2 5 #[55, 106, 125, 32], 32) := by decide +kernel
theorem dX11_plays_204 : decode cX11_plays 204 = .ok (.aload_n 0, 1) := by decide +kernel
theorem dX11_plays_205 : decode cX11_plays 205 = .ok (.aload_n 0, 1) := by decide +kernel
theorem dX11_plays_206 : decode cX11_plays 206 = .ok (.aload_n 0, 1) := by decide +kernel
theorem dX11_plays_207 : decode cX11_plays 207 = .ok (.getfield 260, 3) := by decide +kernel
theorem dX11_plays_210 : decode cX11_plays 210 = .ok (.invokevirtual 275, 3) := by decide +kernel
theorem dX11_plays_213 : decode cX11_plays 213 = .ok (.ifCond .eq 7, 3) := by decide +kernel
theorem dX11_plays_216 : decode cX11_plays 216 = .ok (.iconst 0, 1) := by decide +kernel
theorem dX11_plays_217 : decode cX11_plays 217 = .ok (.goto 4, 3) := by decide +kernel
theorem dX11_plays_220 : decode cX11_plays 220 = .ok (.iconst 1, 1) := by decide +kernel
theorem dX11_plays_221 : decode cX11_plays 221 = .ok (.putfield 269, 3) := by decide +kernel
theorem dX11_plays_224 : decode cX11_plays 224 = .ok (.goto 175, 3) := by decide +kernel
theorem dX11_plays_227 : decode cX11_plays 227 = .ok (.aload_n 0, 1) := by decide +kernel
theorem dX11_plays_228 : decode cX11_plays 228 = .ok (.aload_n 0, 1) := by decide +kernel
theorem dX11_plays_229 : decode cX11_plays 229 = .ok (.getfield 29, 3) := by decide +kernel
theorem dX11_plays_232 : decode cX11_plays 232 = .ok (.iload 6, 2) := by decide +kernel
theorem dX11_plays_234 : decode cX11_plays 234 = .ok (.iaload, 1) := by decide +kernel
theorem dX11_plays_235 : decode cX11_plays 235 = .ok (.aload_n 0, 1) := by decide +kernel
theorem dX11_plays_236 : decode cX11_plays 236 = .ok (.getfield 260, 3) := by decide +kernel
theorem dX11_plays_239 : decode cX11_plays 239 = .ok (.iload_n 3, 1) := by decide +kernel
theorem dX11_plays_240 : decode cX11_plays 240 = .ok (.invokevirtual 278, 3) := by decide +kernel
theorem dX11_plays_243 : decode cX11_plays 243 = .ok (.ifCond .eq 13, 3) := by decide +kernel
theorem dX11_plays_246 : decode cX11_plays 246 = .ok (.aload_n 0, 1) := by decide +kernel
theorem dX11_plays_247 : decode cX11_plays 247 = .ok (.getfield 32, 3) := by decide +kernel
theorem dX11_plays_250 : decode cX11_plays 250 = .ok (.iload 6, 2) := by decide +kernel
theorem dX11_plays_252 : decode cX11_plays 252 = .ok (.iaload, 1) := by decide +kernel
theorem dX11_plays_253 : decode cX11_plays 253 = .ok (.goto 10, 3) := by decide +kernel
theorem dX11_plays_256 : decode cX11_plays 256 = .ok (.aload_n 0, 1) := by decide +kernel
theorem dX11_plays_257 : decode cX11_plays 257 = .ok (.getfield 35, 3) := by decide +kernel
theorem dX11_plays_260 : decode cX11_plays 260 = .ok (.iload 6, 2) := by decide +kernel
theorem dX11_plays_262 : decode cX11_plays 262 = .ok (.iaload, 1) := by decide +kernel
theorem dX11_plays_263 : decode cX11_plays 263 = .ok (.istore 5, 2) := by decide +kernel
theorem dX11_plays_265 : decode cX11_plays 265 = .ok (.aload_n 0, 1) := by decide +kernel
theorem dX11_plays_266 : decode cX11_plays 266 = .ok (.dup, 1) := by decide +kernel
theorem dX11_plays_267 : decode cX11_plays 267 = .ok (.getfield 263, 3) := by decide +kernel
theorem dX11_plays_270 : decode cX11_plays 270 = .ok (.iconst 1, 1) := by decide +kernel
theorem dX11_plays_271 : decode cX11_plays 271 = .ok (.iadd, 1) := by decide +kernel
theorem dX11_plays_272 : decode cX11_plays 272 = .ok (.putfield 263, 3) := by decide +kernel
theorem dX11_plays_275 : decode cX11_plays 275 = .ok (.goto 124, 3) := by decide +kernel
theorem dX11_plays_278 : decode cX11_plays 278 = .ok (.aload_n 0, 1) := by decide +kernel
theorem dX11_plays_279 : decode cX11_plays 279 = .ok (.dup, 1) := by decide +kernel
theorem dX11_plays_280 : decode cX11_plays 280 = .ok (.getfield 263, 3) := by decide +kernel
theorem dX11_plays_283 : decode cX11_plays 283 = .ok (.aload_n 0, 1) := by decide +kernel
theorem dX11_plays_284 : decode cX11_plays 284 = .ok (.getfield 29, 3) := by decide +kernel
theorem dX11_plays_287 : decode cX11_plays 287 = .ok (.iload 6, 2) := by decide +kernel
theorem dX11_plays_289 : decode cX11_plays 289 = .ok (.iaload, 1) := by decide +kernel
theorem dX11_plays_290 : decode cX11_plays 290 = .ok (.iadd, 1) := by decide +kernel
theorem dX11_plays_291 : decode cX11_plays 291 = .ok (.putfield 263, 3) := by decide +kernel
theorem dX11_plays_294 : decode cX11_plays 294 = .ok (.goto 105, 3) := by decide +kernel
theorem dX11_plays_297 : decode cX11_plays 297 = .ok (.aload_n 0, 1) := by decide +kernel
theorem dX11_plays_298 : decode cX11_plays 298 = .ok (.getfield 29, 3) := by decide +kernel
theorem dX11_plays_301 : decode cX11_plays 301 = .ok (.iload 6, 2) := by decide +kernel
theorem dX11_plays_303 : decode cX11_plays 303 = .ok (.iaload, 1) := by decide +kernel
theorem dX11_plays_304 : decode cX11_plays 304 = .ok (.istore 5, 2) := by decide +kernel
theorem dX11_plays_306 : decode cX11_plays 306 = .ok (.goto 93, 3) := by decide +kernel
theorem dX11_plays_309 : decode cX11_plays 309 = .ok (.aload_n 0, 1) := by decide +kernel
theorem dX11_plays_310 : decode cX11_plays 310 = .ok (.aload_n 0, 1) := by decide +kernel
theorem dX11_plays_311 : decode cX11_plays 311 = .ok (.getfield 29, 3) := by decide +kernel
theorem dX11_plays_314 : decode cX11_plays 314 = .ok (.iload 6, 2) := by decide +kernel
theorem dX11_plays_316 : decode cX11_plays 316 = .ok (.iaload, 1) := by decide +kernel
theorem dX11_plays_317 : decode cX11_plays 317 = .ok (.iload 4, 2) := by decide +kernel
theorem dX11_plays_319 : decode cX11_plays 319 = .ok (.invokevirtual 281, 3) := by decide +kernel
theorem dX11_plays_322 : decode cX11_plays 322 = .ok (.ifCond .ne 11, 3) := by decide +kernel
theorem dX11_plays_325 : decode cX11_plays 325 = .ok (.aload_n 0, 1) := by decide +kernel
theorem dX11_plays_326 : decode cX11_plays 326 = .ok (.iconst 2, 1) := by decide +kernel
theorem dX11_plays_327 : decode cX11_plays 327 = .ok (.putfield 269, 3) := by decide +kernel
theorem dX11_plays_330 : decode cX11_plays 330 = .ok (.goto 69, 3) := by decide +kernel
theorem dX11_plays_333 : decode cX11_plays 333 = .ok (.aload_n 0, 1) := by decide +kernel
theorem dX11_plays_334 : decode cX11_plays 334 = .ok (.getfield 38, 3) := by decide +kernel
theorem dX11_plays_337 : decode cX11_plays 337 = .ok (.iload 6, 2) := by decide +kernel
theorem dX11_plays_339 : decode cX11_plays 339 = .ok (.iaload, 1) := by decide +kernel
theorem dX11_plays_340 : decode cX11_plays 340 = .ok (.iconst (-1), 1) := by decide +kernel
theorem dX11_plays_341 : decode cX11_plays 341 = .ok (.if_icmp .eq 28, 3) := by decide +kernel
theorem dX11_plays_344 : decode cX11_plays 344 = .ok (.aload_n 0, 1) := by decide +kernel
theorem dX11_plays_345 : decode cX11_plays 345 = .ok (.getfield 260, 3) := by decide +kernel
theorem dX11_plays_348 : decode cX11_plays 348 = .ok (.aload_n 0, 1) := by decide +kernel
theorem dX11_plays_349 : decode cX11_plays 349 = .ok (.getfield 38, 3) := by decide +kernel
theorem dX11_plays_352 : decode cX11_plays 352 = .ok (.iload 6, 2) := by decide +kernel
theorem dX11_plays_354 : decode cX11_plays 354 = .ok (.iaload, 1) := by decide +kernel
theorem dX11_plays_355 : decode cX11_plays 355 = .ok (.ishr, 1) := by decide +kernel
theorem dX11_plays_356 : decode cX11_plays 356 = .ok (.iconst 1, 1) := by decide +kernel
theorem dX11_plays_357 : decode cX11_plays 357 = .ok (.iand, 1) := by decide +kernel
theorem dX11_plays_358 : decode cX11_plays 358 = .ok (.ifCond .ne 11, 3) := by decide +kernel
theorem dX11_plays_361 : decode cX11_plays 361 = .ok (.aload_n 0, 1) := by decide +kernel
theorem dX11_plays_362 : decode cX11_plays 362 = .ok (.iconst 3, 1) := by decide +kernel
theorem dX11_plays_363 : decode cX11_plays 363 = .ok (.putfield 269, 3) := by decide +kernel
theorem dX11_plays_366 : decode cX11_plays 366 = .ok (.goto 33, 3) := by decide +kernel
theorem dX11_plays_369 : decode cX11_plays 369 = .ok (.aload_n 0, 1) := by decide +kernel
theorem dX11_plays_370 : decode cX11_plays 370 = .ok (.dup, 1) := by decide +kernel
theorem dX11_plays_371 : decode cX11_plays 371 = .ok (.getfield 263, 3) := by decide +kernel
theorem dX11_plays_374 : decode cX11_plays 374 = .ok (.aload_n 0, 1) := by decide +kernel
theorem dX11_plays_375 : decode cX11_plays 375 = .ok (.getfield 35, 3) := by decide +kernel
theorem dX11_plays_378 : decode cX11_plays 378 = .ok (.iload 6, 2) := by decide +kernel
theorem dX11_plays_380 : decode cX11_plays 380 = .ok (.iaload, 1) := by decide +kernel
theorem dX11_plays_381 : decode cX11_plays 381 = .ok (.iadd, 1) := by decide +kernel
theorem dX11_plays_382 : decode cX11_plays 382 = .ok (.putfield 263, 3) := by decide +kernel
theorem dX11_plays_385 : decode cX11_plays 385 = .ok (.aload_n 0, 1) := by decide +kernel
theorem dX11_plays_386 : decode cX11_plays 386 = .ok (.aload_n 0, 1) := by decide +kernel
theorem dX11_plays_387 : decode cX11_plays 387 = .ok (.iload 6, 2) := by decide +kernel
theorem dX11_plays_389 : decode cX11_plays 389 = .ok (.aload_n 0, 1) := by decide +kernel
theorem dX11_plays_390 : decode cX11_plays 390 = .ok (.getfield 260, 3) := by decide +kernel
theorem dX11_plays_393 : decode cX11_plays 393 = .ok (.invokevirtual 285, 3) := by decide +kernel
theorem dX11_plays_396 : decode cX11_plays 396 = .ok (.putfield 260, 3) := by decide +kernel
theorem dX11_plays_399 : decode cX11_plays 399 = .ok (.aload_n 0, 1) := by decide +kernel
theorem dX11_plays_400 : decode cX11_plays 400 = .ok (.getfield 269, 3) := by decide +kernel
theorem dX11_plays_403 : decode cX11_plays 403 = .ok (.iconst (-1), 1) := by decide +kernel
theorem dX11_plays_404 : decode cX11_plays 404 = .ok (.if_icmp .ne 19, 3) := by decide +kernel
theorem dX11_plays_407 : decode cX11_plays 407 = .ok (.aload_n 0, 1) := by decide +kernel
theorem dX11_plays_408 : decode cX11_plays 408 = .ok (.getfield 263, 3) := by decide +kernel
theorem dX11_plays_411 : decode cX11_plays 411 = .ok (.sipush 5000, 3) := by decide +kernel
theorem dX11_plays_414 : decode cX11_plays 414 = .ok (.if_icmp .le 9, 3) := by decide +kernel
theorem dX11_plays_417 : decode cX11_plays 417 = .ok (.aload_n 0, 1) := by decide +kernel
theorem dX11_plays_418 : decode cX11_plays 418 = .ok (.bipush 6, 2) := by decide +kernel
theorem dX11_plays_420 : decode cX11_plays 420 = .ok (.putfield 269, 3) := by decide +kernel
theorem dX11_plays_423 : decode cX11_plays 423 = .ok (.goto (-385), 3) := by decide +kernel
theorem dX11_plays_426 : decode cX11_plays 426 = .ok (.aload_n 0, 1) := by decide +kernel
theorem dX11_plays_427 : decode cX11_plays 427 = .ok (.getfield 269, 3) := by decide +kernel
theorem dX11_plays_430 : decode cX11_plays 430 = .ok (.ireturn, 1) := by decide +kernel
set_option maxRecDepth 20000 in
theorem ggX11_areBits_X11_in : GoodIn wsX11_areBits wsX11_in := goodIn_r _ [4] (by decide +kernel) (by decide +kernel)
set_option maxRecDepth 20000 in
theorem gX11_areBits_X11_in : GoodIn wsX11_areBits (va_wsS RX11 136 yX11_in wsX11_in) := goodIn_app (goodIn_of _ (by decide +kernel)) ggX11_areBits_X11_in
theorem dX11_areBits_0 : decode cX11_areBits 0 = .ok (.iload_n 0, 1) := by decide +kernel
theorem dX11_areBits_1 : decode cX11_areBits 1 = .ok (.iconst 0, 1) := by decide +kernel
theorem dX11_areBits_2 : decode cX11_areBits 2 = .ok (.sipush 255, 3) := by decide +kernel
theorem dX11_areBits_5 : decode cX11_areBits 5 = .ok (.invokestatic 136, 3) := by decide +kernel
theorem dX11_areBits_8 : decode cX11_areBits 8 = .ok (.ifCond .eq 29, 3) := by decide +kernel
theorem dX11_areBits_11 : decode cX11_areBits 11 = .ok (.iload_n 1, 1) := by decide +kernel
theorem dX11_areBits_12 : decode cX11_areBits 12 = .ok (.iconst 0, 1) := by decide +kernel
theorem dX11_areBits_13 : decode cX11_areBits 13 = .ok (.sipush 255, 3) := by decide +kernel
theorem dX11_areBits_16 : decode cX11_areBits 16 = .ok (.invokestatic 136, 3) := by decide +kernel
theorem dX11_areBits_19 : decode cX11_areBits 19 = .ok (.ifCond .eq 18, 3) := by decide +kernel
theorem dX11_areBits_22 : decode cX11_areBits 22 = .ok (.iload_n 2, 1) := by decide +kernel
theorem dX11_areBits_23 : decode cX11_areBits 23 = .ok (.iconst 0, 1) := by decide +kernel
theorem dX11_areBits_24 : decode cX11_areBits 24 = .ok (.sipush 255, 3) := by decide +kernel
theorem dX11_areBits_27 : decode cX11_areBits 27 = .ok (.invokestatic 136, 3) := by decide +kernel
theorem dX11_areBits_30 : decode cX11_areBits 30 = .ok (.ifCond .eq 7, 3) := by decide +kernel
theorem dX11_areBits_33 : decode cX11_areBits 33 = .ok (.iconst 1, 1) := by decide +kernel
theorem dX11_areBits_34 : decode cX11_areBits 34 = .ok (.goto 4, 3) := by decide +kernel
theorem dX11_areBits_37 : decode cX11_areBits 37 = .ok (.iconst 0, 1) := by decide +kernel
theorem dX11_areBits_38 : decode cX11_areBits 38 = .ok (.ireturn, 1) := by decide +kernel
set_option maxRecDepth 20000 in
theorem ggX11_play_X11_isBook : GoodIn wsX11_play wsX11_isBook := goodIn_r _ [18, 19, 74, 75, 76, 77, 78, 79, 80, 81, 82, 83, 84, 85, 86, 87, 88, 89, 90, 91, 92, 93, 94, 95, 96, 97, 98, 99, 100, 101, 102, 103, 104, 105, 106, 107, 108, 109, 110, 111, 112, 113, 114, 115, 116, 117, 118, 119, 120, 121, 122, 123, 124, 125, 126, 127, 128, 129, 130, 131, 132, 133, 134, 135, 136, 137, 138, 139, 140, 141] (by decide +kernel) (by decide +kernel)
set_option maxRecDepth 20000 in
theorem gX11_play_X11_isBook : GoodIn wsX11_play (wsV RX11 251 RX11 yX11_isBook wsX11_isBook) := goodIn_app (goodIn_of _ (by decide +kernel)) ggX11_play_X11_isBook
set_option maxRecDepth 20000 in
theorem ggX11_play_X11_refused : GoodIn wsX11_play wsX11_refused := goodIn_r _ [23, 24, 25, 74, 75, 76, 77, 78, 79, 80, 81, 82, 83, 84, 85, 86, 87, 88, 89, 90, 91, 92, 93, 94, 95, 96, 97, 98, 99, 100, 101, 102, 103, 104, 105, 106, 107, 108, 109, 110, 111, 112, 113, 114, 115, 116, 117, 118, 119, 120, 121, 122, 123, 124, 125, 126, 127, 128, 129, 130, 131, 132, 133, 134, 135, 136, 137, 138, 139, 140, 141] (by decide +kernel) (by decide +kernel)
set_option maxRecDepth 20000 in
theorem gX11_play_X11_refused : GoodIn wsX11_play (wsV RX11 126 RX11 yX11_refused wsX11_refused) := goodIn_app (goodIn_of _ (by decide +kernel)) ggX11_play_X11_refused
set_option maxRecDepth 20000 in
theorem ggX11_play_X11_areBits : GoodIn wsX11_play wsX11_areBits := goodIn_r _ [28, 29, 30, 17, 31] (by decide +kernel) (by decide +kernel)
set_option maxRecDepth 20000 in
theorem gX11_play_X11_areBits : GoodIn wsX11_play (va_wsS RX11 288 yX11_areBits wsX11_areBits) := goodIn_app (goodIn_of _ (by decide +kernel)) ggX11_play_X11_areBits
set_option maxRecDepth 20000 in
theorem ggX11_play_X11_plays : GoodIn wsX11_play wsX11_plays := goodIn_r _ [35, 36, 8, 4, 6, 37, 10, 38, 13, 39, 40, 41, 42, 43, 44, 45, 46, 47, 17, 48, 49, 50, 51, 52, 53, 54, 55, 56, 57, 58, 59, 60, 61, 62, 63, 64, 65, 66, 67, 68, 69, 74, 75, 76, 77, 78, 79, 80, 81, 82, 83, 84, 85, 86, 87, 88, 89, 90, 91, 92, 93, 94, 95, 96, 97, 98, 99, 100, 101, 102, 103, 104, 105, 106, 107, 108, 109, 110, 111, 112, 113, 114, 115, 116, 117, 118, 119, 120, 121, 122, 123, 124, 125, 126, 127, 128, 129, 130, 131, 132, 133, 134, 135, 136, 137, 138, 139, 140, 141] (by decide +kernel) (by decide +kernel)
set_option maxRecDepth 20000 in
theorem gX11_play_X11_plays : GoodIn wsX11_play (wsV RX11 291 RX11 yX11_plays wsX11_plays) := goodIn_app (goodIn_of _ (by decide +kernel)) ggX11_play_X11_plays
set_option maxRecDepth 20000 in
theorem ggX11_play_X11_done : GoodIn wsX11_play wsX11_done := goodIn_r _ [73, 24, 25, 74, 75, 76, 77, 78, 79, 80, 81, 82, 83, 84, 85, 86, 87, 88, 89, 90, 91, 92, 93, 94, 95, 96, 97, 98, 99, 100, 101, 102, 103, 104, 105, 106, 107, 108, 109, 110, 111, 112, 113, 114, 115, 116, 117, 118, 119, 120, 121, 122, 123, 124, 125, 126, 127, 128, 129, 130, 131, 132, 133, 134, 135, 136, 137, 138, 139, 140, 141] (by decide +kernel) (by decide +kernel)
set_option maxRecDepth 20000 in
theorem gX11_play_X11_done : GoodIn wsX11_play (wsV RX11 130 RX11 yX11_done wsX11_done) := goodIn_app (goodIn_of _ (by decide +kernel)) ggX11_play_X11_done
theorem dX11_play_0 : decode cX11_play 0 = .ok (.aload_n 0, 1) := by decide +kernel
theorem dX11_play_1 : decode cX11_play 1 = .ok (.iconst 0, 1) := by decide +kernel
theorem dX11_play_2 : decode cX11_play 2 = .ok (.putfield 117, 3) := by decide +kernel
theorem dX11_play_5 : decode cX11_play 5 = .ok (.aload_n 0, 1) := by decide +kernel
theorem dX11_play_6 : decode cX11_play 6 = .ok (.iload_n 1, 1) := by decide +kernel
theorem dX11_play_7 : decode cX11_play 7 = .ok (.invokevirtual 251, 3) := by decide +kernel
theorem dX11_play_10 : decode cX11_play 10 = .ok (.ifCond .ne 9, 3) := by decide +kernel
theorem dX11_play_13 : decode cX11_play 13 = .ok (.aload_n 0, 1) := by decide +kernel
theorem dX11_play_14 : decode cX11_play 14 = .ok (.iconst 1, 1) := by decide +kernel
theorem dX11_play_15 : decode cX11_play 15 = .ok (.invokevirtual 126, 3) := by decide +kernel
theorem dX11_play_18 : decode cX11_play 18 = .ok (.ireturn, 1) := by decide +kernel
theorem dX11_play_19 : decode cX11_play 19 = .ok (.iload_n 2, 1) := by decide +kernel
theorem dX11_play_20 : decode cX11_play 20 = .ok (.iload_n 3, 1) := by decide +kernel
theorem dX11_play_21 : decode cX11_play 21 = .ok (.iload 4, 2) := by decide +kernel
theorem dX11_play_23 : decode cX11_play 23 = .ok (.invokestatic 288, 3) := by decide +kernel
theorem dX11_play_26 : decode cX11_play 26 = .ok (.ifCond .ne 9, 3) := by decide +kernel
theorem dX11_play_29 : decode cX11_play 29 = .ok (.aload_n 0, 1) := by decide +kernel
theorem dX11_play_30 : decode cX11_play 30 = .ok (.iconst 2, 1) := by decide +kernel
theorem dX11_play_31 : decode cX11_play 31 = .ok (.invokevirtual 126, 3) := by decide +kernel
theorem dX11_play_34 : decode cX11_play 34 = .ok (.ireturn, 1) := by decide +kernel
theorem dX11_play_35 : decode cX11_play 35 = .ok (.aload_n 0, 1) := by decide +kernel
theorem dX11_play_36 : decode cX11_play 36 = .ok (.aload_n 0, 1) := by decide +kernel
theorem dX11_play_37 : decode cX11_play 37 = .ok (.iload_n 1, 1) := by decide +kernel
theorem dX11_play_38 : decode cX11_play 38 = .ok (.iload_n 2, 1) := by decide +kernel
theorem dX11_play_39 : decode cX11_play 39 = .ok (.iload_n 3, 1) := by decide +kernel
theorem dX11_play_40 : decode cX11_play 40 = .ok (.iload 4, 2) := by decide +kernel
theorem dX11_play_42 : decode cX11_play 42 = .ok (.invokevirtual 291, 3) := by decide +kernel
theorem dX11_play_45 : decode cX11_play 45 = .ok (.putfield 295, 3) := by decide +kernel
theorem dX11_play_48 : decode cX11_play 48 = .ok (.aload_n 0, 1) := by decide +kernel
theorem dX11_play_49 : decode cX11_play 49 = .ok (.iconst 1, 1) := by decide +kernel
theorem dX11_play_50 : decode cX11_play 50 = .ok (.putfield 298, 3) := by decide +kernel
theorem dX11_play_53 : decode cX11_play 53 = .ok (.aload_n 0, 1) := by decide +kernel
theorem dX11_play_54 : decode cX11_play 54 = .ok (.aload_n 0, 1) := by decide +kernel
theorem dX11_play_55 : decode cX11_play 55 = .ok (.getfield 263, 3) := by decide +kernel
theorem dX11_play_58 : decode cX11_play 58 = .ok (.putfield 302, 3) := by decide +kernel
theorem dX11_play_61 : decode cX11_play 61 = .ok (.aload_n 0, 1) := by decide +kernel
theorem dX11_play_62 : decode cX11_play 62 = .ok (.aload_n 0, 1) := by decide +kernel
theorem dX11_play_63 : decode cX11_play 63 = .ok (.getfield 266, 3) := by decide +kernel
theorem dX11_play_66 : decode cX11_play 66 = .ok (.putfield 305, 3) := by decide +kernel
theorem dX11_play_69 : decode cX11_play 69 = .ok (.aload_n 0, 1) := by decide +kernel
theorem dX11_play_70 : decode cX11_play 70 = .ok (.aload_n 0, 1) := by decide +kernel
theorem dX11_play_71 : decode cX11_play 71 = .ok (.getfield 260, 3) := by decide +kernel
theorem dX11_play_74 : decode cX11_play 74 = .ok (.putfield 308, 3) := by decide +kernel
theorem dX11_play_77 : decode cX11_play 77 = .ok (.aload_n 0, 1) := by decide +kernel
theorem dX11_play_78 : decode cX11_play 78 = .ok (.aload_n 0, 1) := by decide +kernel
theorem dX11_play_79 : decode cX11_play 79 = .ok (.getfield 272, 3) := by decide +kernel
theorem dX11_play_82 : decode cX11_play 82 = .ok (.putfield 311, 3) := by decide +kernel
theorem dX11_play_85 : decode cX11_play 85 = .ok (.iconst 0, 1) := by decide +kernel
theorem dX11_play_86 : decode cX11_play 86 = .ok (.istore 5, 2) := by decide +kernel
theorem dX11_play_88 : decode cX11_play 88 = .ok (.iload 5, 2) := by decide +kernel
theorem dX11_play_90 : decode cX11_play 90 = .ok (.aload_n 0, 1) := by decide +kernel
theorem dX11_play_91 : decode cX11_play 91 = .ok (.getfield 266, 3) := by decide +kernel
theorem dX11_play_94 : decode cX11_play 94 = .ok (.if_icmp .ge 31, 3) := by decide +kernel
theorem dX11_play_97 : decode cX11_play 97 = .ok (.iload 5, 2) := by decide +kernel
theorem dX11_play_99 : decode cX11_play 99 = .ok (.sipush 2000, 3) := by decide +kernel
theorem dX11_play_102 : decode cX11_play 102 = .ok (.if_icmp .ge 23, 3) := by decide +kernel
theorem dX11_play_105 : decode cX11_play 105 = .ok (.aload_n 0, 1) := by decide +kernel
theorem dX11_play_106 : decode cX11_play 106 = .ok (.getfield 64, 3) := by decide +kernel
theorem dX11_play_109 : decode cX11_play 109 = .ok (.iload 5, 2) := by decide +kernel
theorem dX11_play_111 : decode cX11_play 111 = .ok (.aload_n 0, 1) := by decide +kernel
theorem dX11_play_112 : decode cX11_play 112 = .ok (.getfield 61, 3) := by decide +kernel
theorem dX11_play_115 : decode cX11_play 115 = .ok (.iload 5, 2) := by decide +kernel
theorem dX11_play_117 : decode cX11_play 117 = .ok (.iaload, 1) := by decide +kernel
theorem dX11_play_118 : decode cX11_play 118 = .ok (.iastore, 1) := by decide +kernel
theorem dX11_play_119 : decode cX11_play 119 = .ok (.iinc 5 1, 3) := by decide +kernel
theorem dX11_play_122 : decode cX11_play 122 = .ok (.goto (-34), 3) := by decide +kernel
theorem dX11_play_125 : decode cX11_play 125 = .ok (.aload_n 0, 1) := by decide +kernel
theorem dX11_play_126 : decode cX11_play 126 = .ok (.aload_n 0, 1) := by decide +kernel
theorem dX11_play_127 : decode cX11_play 127 = .ok (.getfield 295, 3) := by decide +kernel
theorem dX11_play_130 : decode cX11_play 130 = .ok (.invokevirtual 130, 3) := by decide +kernel
theorem dX11_play_133 : decode cX11_play 133 = .ok (.ireturn, 1) := by decide +kernel
set_option maxRecDepth 20000 in
theorem ggX11_played_X11_refused : GoodIn wsX11_played wsX11_refused := goodIn_r _ [13, 3, 4, 14, 15, 16, 17, 18, 19, 20, 21, 22, 23, 24, 25, 26, 27, 28, 29, 30, 31, 32, 33, 34, 35, 36, 37, 38, 39, 40, 41, 42, 43, 44, 45, 46, 47, 48, 49, 50, 51, 52, 53, 54, 55, 56, 57, 58, 59, 60, 61, 62, 63, 64, 65, 66, 67, 68, 69, 70, 71, 72, 73, 74, 75, 76, 77, 78, 79, 80, 81] (by decide +kernel) (by decide +kernel)
set_option maxRecDepth 20000 in
theorem gX11_played_X11_refused : GoodIn wsX11_played (wsV RX11 126 RX11 yX11_refused wsX11_refused) := goodIn_app (goodIn_of _ (by decide +kernel)) ggX11_played_X11_refused
theorem dX11_played_0 : decode cX11_played 0 = .ok (.aload_n 0, 1) := by decide +kernel
theorem dX11_played_1 : decode cX11_played 1 = .ok (.iconst 0, 1) := by decide +kernel
theorem dX11_played_2 : decode cX11_played 2 = .ok (.putfield 117, 3) := by decide +kernel
theorem dX11_played_5 : decode cX11_played 5 = .ok (.aload_n 0, 1) := by decide +kernel
theorem dX11_played_6 : decode cX11_played 6 = .ok (.getfield 298, 3) := by decide +kernel
theorem dX11_played_9 : decode cX11_played 9 = .ok (.ifCond .ne 9, 3) := by decide +kernel
theorem dX11_played_12 : decode cX11_played 12 = .ok (.aload_n 0, 1) := by decide +kernel
theorem dX11_played_13 : decode cX11_played 13 = .ok (.iconst 5, 1) := by decide +kernel
theorem dX11_played_14 : decode cX11_played 14 = .ok (.invokevirtual 126, 3) := by decide +kernel
theorem dX11_played_17 : decode cX11_played 17 = .ok (.ireturn, 1) := by decide +kernel
theorem dX11_played_18 : decode cX11_played 18 = .ok (.aload_n 0, 1) := by decide +kernel
theorem dX11_played_19 : decode cX11_played 19 = .ok (.iconst 0, 1) := by decide +kernel
theorem dX11_played_20 : decode cX11_played 20 = .ok (.putfield 120, 3) := by decide +kernel
theorem dX11_played_23 : decode cX11_played 23 = .ok (.aload_n 0, 1) := by decide +kernel
theorem dX11_played_24 : decode cX11_played 24 = .ok (.iconst (-1), 1) := by decide +kernel
theorem dX11_played_25 : decode cX11_played 25 = .ok (.putfield 9, 3) := by decide +kernel
theorem dX11_played_28 : decode cX11_played 28 = .ok (.iload_n 1, 1) := by decide +kernel
theorem dX11_played_29 : decode cX11_played 29 = .ok (.tableswitch 51 0 3 #[31, 36, 41, 46], 31) := by decide +kernel
theorem dX11_played_60 : decode cX11_played 60 = .ok (.aload_n 0, 1) := by decide +kernel
theorem dX11_played_61 : decode cX11_played 61 = .ok (.getfield 302, 3) := by decide +kernel
theorem dX11_played_64 : decode cX11_played 64 = .ok (.ireturn, 1) := by decide +kernel
theorem dX11_played_65 : decode cX11_played 65 = .ok (.aload_n 0, 1) := by decide +kernel
theorem dX11_played_66 : decode cX11_played 66 = .ok (.getfield 305, 3) := by decide +kernel
theorem dX11_played_69 : decode cX11_played 69 = .ok (.ireturn, 1) := by decide +kernel
theorem dX11_played_70 : decode cX11_played 70 = .ok (.aload_n 0, 1) := by decide +kernel
theorem dX11_played_71 : decode cX11_played 71 = .ok (.getfield 308, 3) := by decide +kernel
theorem dX11_played_74 : decode cX11_played 74 = .ok (.ireturn, 1) := by decide +kernel
theorem dX11_played_75 : decode cX11_played 75 = .ok (.aload_n 0, 1) := by decide +kernel
theorem dX11_played_76 : decode cX11_played 76 = .ok (.getfield 311, 3) := by decide +kernel
theorem dX11_played_79 : decode cX11_played 79 = .ok (.ireturn, 1) := by decide +kernel
theorem dX11_played_80 : decode cX11_played 80 = .ok (.iconst (-1), 1) := by decide +kernel
theorem dX11_played_81 : decode cX11_played 81 = .ok (.ireturn, 1) := by decide +kernel
theorem dX11_path_0 : decode cX11_path 0 = .ok (.aload_n 0, 1) := by decide +kernel
theorem dX11_path_1 : decode cX11_path 1 = .ok (.iconst 0, 1) := by decide +kernel
theorem dX11_path_2 : decode cX11_path 2 = .ok (.putfield 117, 3) := by decide +kernel
theorem dX11_path_5 : decode cX11_path 5 = .ok (.aload_n 0, 1) := by decide +kernel
theorem dX11_path_6 : decode cX11_path 6 = .ok (.getfield 298, 3) := by decide +kernel
theorem dX11_path_9 : decode cX11_path 9 = .ok (.ifCond .eq 31, 3) := by decide +kernel
theorem dX11_path_12 : decode cX11_path 12 = .ok (.iload_n 1, 1) := by decide +kernel
theorem dX11_path_13 : decode cX11_path 13 = .ok (.ifCond .lt 27, 3) := by decide +kernel
theorem dX11_path_16 : decode cX11_path 16 = .ok (.iload_n 1, 1) := by decide +kernel
theorem dX11_path_17 : decode cX11_path 17 = .ok (.aload_n 0, 1) := by decide +kernel
theorem dX11_path_18 : decode cX11_path 18 = .ok (.getfield 305, 3) := by decide +kernel
theorem dX11_path_21 : decode cX11_path 21 = .ok (.if_icmp .ge 19, 3) := by decide +kernel
theorem dX11_path_24 : decode cX11_path 24 = .ok (.iload_n 1, 1) := by decide +kernel
theorem dX11_path_25 : decode cX11_path 25 = .ok (.sipush 2000, 3) := by decide +kernel
theorem dX11_path_28 : decode cX11_path 28 = .ok (.if_icmp .ge 12, 3) := by decide +kernel
theorem dX11_path_31 : decode cX11_path 31 = .ok (.aload_n 0, 1) := by decide +kernel
theorem dX11_path_32 : decode cX11_path 32 = .ok (.getfield 64, 3) := by decide +kernel
theorem dX11_path_35 : decode cX11_path 35 = .ok (.iload_n 1, 1) := by decide +kernel
theorem dX11_path_36 : decode cX11_path 36 = .ok (.iaload, 1) := by decide +kernel
theorem dX11_path_37 : decode cX11_path 37 = .ok (.goto 4, 3) := by decide +kernel
theorem dX11_path_40 : decode cX11_path 40 = .ok (.iconst (-1), 1) := by decide +kernel
theorem dX11_path_41 : decode cX11_path 41 = .ok (.ireturn, 1) := by decide +kernel
set_option maxRecDepth 20000 in
theorem ggX11_chooses_X11_allFacts : GoodIn wsX11_chooses wsX11_allFacts := goodIn_r _ [11, 12, 16, 17, 18, 19, 20, 21, 22, 23, 24, 25, 26, 27, 28, 29, 30, 31, 32, 33, 34, 35, 36, 37, 38, 39, 40, 41, 42, 43, 44, 45, 46, 47, 48, 49, 50, 51, 52, 53, 54, 55, 56, 57, 58, 59, 60, 61, 62, 63, 64, 65, 66, 67, 68, 69, 70, 71, 72, 73, 74, 75, 76, 77, 78, 79, 80, 81, 82, 83] (by decide +kernel) (by decide +kernel)
set_option maxRecDepth 20000 in
theorem gX11_chooses_X11_allFacts : GoodIn wsX11_chooses (wsV RX11 254 RX11 yX11_allFacts wsX11_allFacts) := goodIn_app (goodIn_of _ (by decide +kernel)) ggX11_chooses_X11_allFacts
set_option maxRecDepth 20000 in
theorem ggX11_chooses_X11_bits : GoodIn wsX11_chooses wsX11_bits := goodIn_r _ [15] (by decide +kernel) (by decide +kernel)
set_option maxRecDepth 20000 in
theorem gX11_chooses_X11_bits : GoodIn wsX11_chooses (va_wsS RX11 317 yX11_bits wsX11_bits) := goodIn_app (goodIn_of _ (by decide +kernel)) ggX11_chooses_X11_bits
theorem dX11_chooses_0 : decode cX11_chooses 0 = .ok (.aload_n 0, 1) := by decide +kernel
theorem dX11_chooses_1 : decode cX11_chooses 1 = .ok (.iconst 0, 1) := by decide +kernel
theorem dX11_chooses_2 : decode cX11_chooses 2 = .ok (.putfield 314, 3) := by decide +kernel
theorem dX11_chooses_5 : decode cX11_chooses 5 = .ok (.iload_n 1, 1) := by decide +kernel
theorem dX11_chooses_6 : decode cX11_chooses 6 = .ok (.aload_n 0, 1) := by decide +kernel
theorem dX11_chooses_7 : decode cX11_chooses 7 = .ok (.invokevirtual 254, 3) := by decide +kernel
theorem dX11_chooses_10 : decode cX11_chooses 10 = .ok (.iand, 1) := by decide +kernel
theorem dX11_chooses_11 : decode cX11_chooses 11 = .ok (.istore 5, 2) := by decide +kernel
theorem dX11_chooses_13 : decode cX11_chooses 13 = .ok (.iconst 0, 1) := by decide +kernel
theorem dX11_chooses_14 : decode cX11_chooses 14 = .ok (.istore 6, 2) := by decide +kernel
theorem dX11_chooses_16 : decode cX11_chooses 16 = .ok (.iload 6, 2) := by decide +kernel
theorem dX11_chooses_18 : decode cX11_chooses 18 = .ok (.iconst 1, 1) := by decide +kernel
theorem dX11_chooses_19 : decode cX11_chooses 19 = .ok (.aload_n 0, 1) := by decide +kernel
theorem dX11_chooses_20 : decode cX11_chooses 20 = .ok (.getfield 140, 3) := by decide +kernel
theorem dX11_chooses_23 : decode cX11_chooses 23 = .ok (.ishl, 1) := by decide +kernel
theorem dX11_chooses_24 : decode cX11_chooses 24 = .ok (.if_icmp .ge 139, 3) := by decide +kernel
theorem dX11_chooses_27 : decode cX11_chooses 27 = .ok (.iload 6, 2) := by decide +kernel
theorem dX11_chooses_29 : decode cX11_chooses 29 = .ok (.invokestatic 317, 3) := by decide +kernel
theorem dX11_chooses_32 : decode cX11_chooses 32 = .ok (.iload 4, 2) := by decide +kernel
theorem dX11_chooses_34 : decode cX11_chooses 34 = .ok (.if_icmp .le 6, 3) := by decide +kernel
theorem dX11_chooses_37 : decode cX11_chooses 37 = .ok (.goto 120, 3) := by decide +kernel
theorem dX11_chooses_40 : decode cX11_chooses 40 = .ok (.iconst 0, 1) := by decide +kernel
theorem dX11_chooses_41 : decode cX11_chooses 41 = .ok (.istore 7, 2) := by decide +kernel
theorem dX11_chooses_43 : decode cX11_chooses 43 = .ok (.iload 7, 2) := by decide +kernel
theorem dX11_chooses_45 : decode cX11_chooses 45 = .ok (.iconst 1, 1) := by decide +kernel
theorem dX11_chooses_46 : decode cX11_chooses 46 = .ok (.aload_n 0, 1) := by decide +kernel
theorem dX11_chooses_47 : decode cX11_chooses 47 = .ok (.getfield 133, 3) := by decide +kernel
theorem dX11_chooses_50 : decode cX11_chooses 50 = .ok (.ishl, 1) := by decide +kernel
theorem dX11_chooses_51 : decode cX11_chooses 51 = .ok (.if_icmp .ge 106, 3) := by decide +kernel
theorem dX11_chooses_54 : decode cX11_chooses 54 = .ok (.iload 7, 2) := by decide +kernel
theorem dX11_chooses_56 : decode cX11_chooses 56 = .ok (.invokestatic 317, 3) := by decide +kernel
theorem dX11_chooses_59 : decode cX11_chooses 59 = .ok (.iload_n 3, 1) := by decide +kernel
theorem dX11_chooses_60 : decode cX11_chooses 60 = .ok (.if_icmp .le 6, 3) := by decide +kernel
theorem dX11_chooses_63 : decode cX11_chooses 63 = .ok (.goto 88, 3) := by decide +kernel
theorem dX11_chooses_66 : decode cX11_chooses 66 = .ok (.iconst 0, 1) := by decide +kernel
theorem dX11_chooses_67 : decode cX11_chooses 67 = .ok (.istore 8, 2) := by decide +kernel
theorem dX11_chooses_69 : decode cX11_chooses 69 = .ok (.iload 8, 2) := by decide +kernel
theorem dX11_chooses_71 : decode cX11_chooses 71 = .ok (.iload 5, 2) := by decide +kernel
theorem dX11_chooses_73 : decode cX11_chooses 73 = .ok (.if_icmp .gt 78, 3) := by decide +kernel
theorem dX11_chooses_76 : decode cX11_chooses 76 = .ok (.iload 8, 2) := by decide +kernel
theorem dX11_chooses_78 : decode cX11_chooses 78 = .ok (.iload 5, 2) := by decide +kernel
theorem dX11_chooses_80 : decode cX11_chooses 80 = .ok (.iconst (-1), 1) := by decide +kernel
theorem dX11_chooses_81 : decode cX11_chooses 81 = .ok (.ixor, 1) := by decide +kernel
theorem dX11_chooses_82 : decode cX11_chooses 82 = .ok (.iand, 1) := by decide +kernel
theorem dX11_chooses_83 : decode cX11_chooses 83 = .ok (.ifCond .ne 62, 3) := by decide +kernel
theorem dX11_chooses_86 : decode cX11_chooses 86 = .ok (.iload 8, 2) := by decide +kernel
theorem dX11_chooses_88 : decode cX11_chooses 88 = .ok (.invokestatic 317, 3) := by decide +kernel
theorem dX11_chooses_91 : decode cX11_chooses 91 = .ok (.iload_n 2, 1) := by decide +kernel
theorem dX11_chooses_92 : decode cX11_chooses 92 = .ok (.if_icmp .le 6, 3) := by decide +kernel
theorem dX11_chooses_95 : decode cX11_chooses 95 = .ok (.goto 50, 3) := by decide +kernel
theorem dX11_chooses_98 : decode cX11_chooses 98 = .ok (.aload_n 0, 1) := by decide +kernel
theorem dX11_chooses_99 : decode cX11_chooses 99 = .ok (.getfield 314, 3) := by decide +kernel
theorem dX11_chooses_102 : decode cX11_chooses 102 = .ok (.sipush 500, 3) := by decide +kernel
theorem dX11_chooses_105 : decode cX11_chooses 105 = .ok (.if_icmp .ne 5, 3) := by decide +kernel
theorem dX11_chooses_108 : decode cX11_chooses 108 = .ok (.iconst 0, 1) := by decide +kernel
theorem dX11_chooses_109 : decode cX11_chooses 109 = .ok (.ireturn, 1) := by decide +kernel
theorem dX11_chooses_110 : decode cX11_chooses 110 = .ok (.aload_n 0, 1) := by decide +kernel
theorem dX11_chooses_111 : decode cX11_chooses 111 = .ok (.getfield 67, 3) := by decide +kernel
theorem dX11_chooses_114 : decode cX11_chooses 114 = .ok (.aload_n 0, 1) := by decide +kernel
theorem dX11_chooses_115 : decode cX11_chooses 115 = .ok (.getfield 314, 3) := by decide +kernel
theorem dX11_chooses_118 : decode cX11_chooses 118 = .ok (.iload 8, 2) := by decide +kernel
theorem dX11_chooses_120 : decode cX11_chooses 120 = .ok (.sipush 256, 3) := by decide +kernel
theorem dX11_chooses_123 : decode cX11_chooses 123 = .ok (.iload 7, 2) := by decide +kernel
theorem dX11_chooses_125 : decode cX11_chooses 125 = .ok (.imul, 1) := by decide +kernel
theorem dX11_chooses_126 : decode cX11_chooses 126 = .ok (.iadd, 1) := by decide +kernel
theorem dX11_chooses_127 : decode cX11_chooses 127 = .ok (.ldc_w 320, 3) := by decide +kernel
theorem dX11_chooses_130 : decode cX11_chooses 130 = .ok (.iload 6, 2) := by decide +kernel
theorem dX11_chooses_132 : decode cX11_chooses 132 = .ok (.imul, 1) := by decide +kernel
theorem dX11_chooses_133 : decode cX11_chooses 133 = .ok (.iadd, 1) := by decide +kernel
theorem dX11_chooses_134 : decode cX11_chooses 134 = .ok (.iastore, 1) := by decide +kernel
theorem dX11_chooses_135 : decode cX11_chooses 135 = .ok (.aload_n 0, 1) := by decide +kernel
theorem dX11_chooses_136 : decode cX11_chooses 136 = .ok (.dup, 1) := by decide +kernel
theorem dX11_chooses_137 : decode cX11_chooses 137 = .ok (.getfield 314, 3) := by decide +kernel
theorem dX11_chooses_140 : decode cX11_chooses 140 = .ok (.iconst 1, 1) := by decide +kernel
theorem dX11_chooses_141 : decode cX11_chooses 141 = .ok (.iadd, 1) := by decide +kernel
theorem dX11_chooses_142 : decode cX11_chooses 142 = .ok (.putfield 314, 3) := by decide +kernel
theorem dX11_chooses_145 : decode cX11_chooses 145 = .ok (.iinc 8 1, 3) := by decide +kernel
theorem dX11_chooses_148 : decode cX11_chooses 148 = .ok (.goto (-79), 3) := by decide +kernel
theorem dX11_chooses_151 : decode cX11_chooses 151 = .ok (.iinc 7 1, 3) := by decide +kernel
theorem dX11_chooses_154 : decode cX11_chooses 154 = .ok (.goto (-111), 3) := by decide +kernel
theorem dX11_chooses_157 : decode cX11_chooses 157 = .ok (.iinc 6 1, 3) := by decide +kernel
theorem dX11_chooses_160 : decode cX11_chooses 160 = .ok (.goto (-144), 3) := by decide +kernel
theorem dX11_chooses_163 : decode cX11_chooses 163 = .ok (.iconst 0, 1) := by decide +kernel
theorem dX11_chooses_164 : decode cX11_chooses 164 = .ok (.istore 6, 2) := by decide +kernel
theorem dX11_chooses_166 : decode cX11_chooses 166 = .ok (.iconst 0, 1) := by decide +kernel
theorem dX11_chooses_167 : decode cX11_chooses 167 = .ok (.istore 7, 2) := by decide +kernel
theorem dX11_chooses_169 : decode cX11_chooses 169 = .ok (.iload 7, 2) := by decide +kernel
theorem dX11_chooses_171 : decode cX11_chooses 171 = .ok (.bipush 20, 2) := by decide +kernel
theorem dX11_chooses_173 : decode cX11_chooses 173 = .ok (.if_icmp .gt 62, 3) := by decide +kernel
theorem dX11_chooses_176 : decode cX11_chooses 176 = .ok (.iconst 0, 1) := by decide +kernel
theorem dX11_chooses_177 : decode cX11_chooses 177 = .ok (.istore 8, 2) := by decide +kernel
theorem dX11_chooses_179 : decode cX11_chooses 179 = .ok (.iload 8, 2) := by decide +kernel
theorem dX11_chooses_181 : decode cX11_chooses 181 = .ok (.aload_n 0, 1) := by decide +kernel
theorem dX11_chooses_182 : decode cX11_chooses 182 = .ok (.getfield 314, 3) := by decide +kernel
theorem dX11_chooses_185 : decode cX11_chooses 185 = .ok (.if_icmp .ge 44, 3) := by decide +kernel
theorem dX11_chooses_188 : decode cX11_chooses 188 = .ok (.aload_n 0, 1) := by decide +kernel
theorem dX11_chooses_189 : decode cX11_chooses 189 = .ok (.getfield 67, 3) := by decide +kernel
theorem dX11_chooses_192 : decode cX11_chooses 192 = .ok (.iload 8, 2) := by decide +kernel
theorem dX11_chooses_194 : decode cX11_chooses 194 = .ok (.iaload, 1) := by decide +kernel
theorem dX11_chooses_195 : decode cX11_chooses 195 = .ok (.invokestatic 317, 3) := by decide +kernel
theorem dX11_chooses_198 : decode cX11_chooses 198 = .ok (.iload 7, 2) := by decide +kernel
theorem dX11_chooses_200 : decode cX11_chooses 200 = .ok (.if_icmp .eq 6, 3) := by decide +kernel
theorem dX11_chooses_203 : decode cX11_chooses 203 = .ok (.goto 20, 3) := by decide +kernel
theorem dX11_chooses_206 : decode cX11_chooses 206 = .ok (.aload_n 0, 1) := by decide +kernel
theorem dX11_chooses_207 : decode cX11_chooses 207 = .ok (.getfield 70, 3) := by decide +kernel
theorem dX11_chooses_210 : decode cX11_chooses 210 = .ok (.iload 6, 2) := by decide +kernel
theorem dX11_chooses_212 : decode cX11_chooses 212 = .ok (.aload_n 0, 1) := by decide +kernel
theorem dX11_chooses_213 : decode cX11_chooses 213 = .ok (.getfield 67, 3) := by decide +kernel
theorem dX11_chooses_216 : decode cX11_chooses 216 = .ok (.iload 8, 2) := by decide +kernel
theorem dX11_chooses_218 : decode cX11_chooses 218 = .ok (.iaload, 1) := by decide +kernel
theorem dX11_chooses_219 : decode cX11_chooses 219 = .ok (.iastore, 1) := by decide +kernel
theorem dX11_chooses_220 : decode cX11_chooses 220 = .ok (.iinc 6 1, 3) := by decide +kernel
theorem dX11_chooses_223 : decode cX11_chooses 223 = .ok (.iinc 8 1, 3) := by decide +kernel
theorem dX11_chooses_226 : decode cX11_chooses 226 = .ok (.goto (-47), 3) := by decide +kernel
theorem dX11_chooses_229 : decode cX11_chooses 229 = .ok (.iinc 7 1, 3) := by decide +kernel
theorem dX11_chooses_232 : decode cX11_chooses 232 = .ok (.goto (-63), 3) := by decide +kernel
theorem dX11_chooses_235 : decode cX11_chooses 235 = .ok (.iconst 0, 1) := by decide +kernel
theorem dX11_chooses_236 : decode cX11_chooses 236 = .ok (.istore 7, 2) := by decide +kernel
theorem dX11_chooses_238 : decode cX11_chooses 238 = .ok (.iload 7, 2) := by decide +kernel
theorem dX11_chooses_240 : decode cX11_chooses 240 = .ok (.aload_n 0, 1) := by decide +kernel
theorem dX11_chooses_241 : decode cX11_chooses 241 = .ok (.getfield 314, 3) := by decide +kernel
theorem dX11_chooses_244 : decode cX11_chooses 244 = .ok (.if_icmp .ge 23, 3) := by decide +kernel
theorem dX11_chooses_247 : decode cX11_chooses 247 = .ok (.aload_n 0, 1) := by decide +kernel
theorem dX11_chooses_248 : decode cX11_chooses 248 = .ok (.getfield 67, 3) := by decide +kernel
theorem dX11_chooses_251 : decode cX11_chooses 251 = .ok (.iload 7, 2) := by decide +kernel
theorem dX11_chooses_253 : decode cX11_chooses 253 = .ok (.aload_n 0, 1) := by decide +kernel
theorem dX11_chooses_254 : decode cX11_chooses 254 = .ok (.getfield 70, 3) := by decide +kernel
theorem dX11_chooses_257 : decode cX11_chooses 257 = .ok (.iload 7, 2) := by decide +kernel
theorem dX11_chooses_259 : decode cX11_chooses 259 = .ok (.iaload, 1) := by decide +kernel
theorem dX11_chooses_260 : decode cX11_chooses 260 = .ok (.iastore, 1) := by decide +kernel
theorem dX11_chooses_261 : decode cX11_chooses 261 = .ok (.iinc 7 1, 3) := by decide +kernel
theorem dX11_chooses_264 : decode cX11_chooses 264 = .ok (.goto (-26), 3) := by decide +kernel
theorem dX11_chooses_267 : decode cX11_chooses 267 = .ok (.iconst 1, 1) := by decide +kernel
theorem dX11_chooses_268 : decode cX11_chooses 268 = .ok (.ireturn, 1) := by decide +kernel
set_option maxRecDepth 20000 in
theorem ggX11_playsChoice_X11_plays : GoodIn wsX11_playsChoice wsX11_plays := goodIn_r _ [5, 6, 7, 8, 9, 10, 11, 12, 13, 14, 15, 16, 17, 18, 19, 20, 21, 22, 4, 23, 24, 25, 26, 27, 28, 29, 30, 31, 32, 33, 34, 35, 36, 37, 38, 39, 40, 41, 42, 43, 44, 45, 46, 47, 48, 49, 50, 51, 52, 53, 54, 55, 56, 57, 58, 59, 60, 61, 62, 63, 64, 65, 66, 67, 68, 69, 70, 71, 72, 73, 74, 75, 76, 77, 78, 79, 80, 81, 82, 83, 84, 85, 86, 87, 88, 89, 90, 91, 92, 93, 94, 95, 96, 97, 98, 99, 100, 101, 102, 103, 104, 105, 106, 107, 108, 109, 110, 111, 112] (by decide +kernel) (by decide +kernel)
set_option maxRecDepth 20000 in
theorem gX11_playsChoice_X11_plays : GoodIn wsX11_playsChoice (wsV RX11 291 RX11 yX11_plays wsX11_plays) := goodIn_app (goodIn_of _ (by decide +kernel)) ggX11_playsChoice_X11_plays
theorem dX11_playsChoice_0 : decode cX11_playsChoice 0 = .ok (.aload_n 0, 1) := by decide +kernel
theorem dX11_playsChoice_1 : decode cX11_playsChoice 1 = .ok (.iload_n 1, 1) := by decide +kernel
theorem dX11_playsChoice_2 : decode cX11_playsChoice 2 = .ok (.iload_n 2, 1) := by decide +kernel
theorem dX11_playsChoice_3 : decode cX11_playsChoice 3 = .ok (.sipush 255, 3) := by decide +kernel
theorem dX11_playsChoice_6 : decode cX11_playsChoice 6 = .ok (.iand, 1) := by decide +kernel
theorem dX11_playsChoice_7 : decode cX11_playsChoice 7 = .ok (.iload_n 2, 1) := by decide +kernel
theorem dX11_playsChoice_8 : decode cX11_playsChoice 8 = .ok (.bipush 8, 2) := by decide +kernel
theorem dX11_playsChoice_10 : decode cX11_playsChoice 10 = .ok (.ishr, 1) := by decide +kernel
theorem dX11_playsChoice_11 : decode cX11_playsChoice 11 = .ok (.sipush 255, 3) := by decide +kernel
theorem dX11_playsChoice_14 : decode cX11_playsChoice 14 = .ok (.iand, 1) := by decide +kernel
theorem dX11_playsChoice_15 : decode cX11_playsChoice 15 = .ok (.iload_n 2, 1) := by decide +kernel
theorem dX11_playsChoice_16 : decode cX11_playsChoice 16 = .ok (.bipush 16, 2) := by decide +kernel
theorem dX11_playsChoice_18 : decode cX11_playsChoice 18 = .ok (.ishr, 1) := by decide +kernel
theorem dX11_playsChoice_19 : decode cX11_playsChoice 19 = .ok (.invokevirtual 291, 3) := by decide +kernel
theorem dX11_playsChoice_22 : decode cX11_playsChoice 22 = .ok (.ireturn, 1) := by decide +kernel
set_option maxRecDepth 20000 in
theorem ggX11_all_X11_isBook : GoodIn wsX11_all wsX11_isBook := goodIn_r _ [16, 17, 87, 88, 89, 90, 91, 92, 93, 94, 95, 96, 97, 98, 99, 100, 101, 102, 103, 104, 105, 106, 107, 108, 109, 110, 111, 112, 113, 114, 115, 116, 117, 118, 119, 120, 121, 122, 123, 124, 125, 126, 127, 128, 129, 130, 131, 132, 133, 134, 135, 136, 137, 138, 139, 140, 141, 142, 143, 144, 145, 146, 147, 148, 149, 150, 151, 152, 153, 154] (by decide +kernel) (by decide +kernel)
set_option maxRecDepth 20000 in
theorem gX11_all_X11_isBook : GoodIn wsX11_all (wsV RX11 251 RX11 yX11_isBook wsX11_isBook) := goodIn_app (goodIn_of _ (by decide +kernel)) ggX11_all_X11_isBook
set_option maxRecDepth 20000 in
theorem ggX11_all_X11_refused : GoodIn wsX11_all wsX11_refused := goodIn_r _ [21, 22, 23, 87, 88, 89, 90, 91, 92, 93, 94, 95, 96, 97, 98, 99, 100, 101, 102, 103, 104, 105, 106, 107, 108, 109, 110, 111, 112, 113, 114, 115, 116, 117, 118, 119, 120, 121, 122, 123, 124, 125, 126, 127, 128, 129, 130, 131, 132, 133, 134, 135, 136, 137, 138, 139, 140, 141, 142, 143, 144, 145, 146, 147, 148, 149, 150, 151, 152, 153, 154] (by decide +kernel) (by decide +kernel)
set_option maxRecDepth 20000 in
theorem gX11_all_X11_refused : GoodIn wsX11_all (wsV RX11 126 RX11 yX11_refused wsX11_refused) := goodIn_app (goodIn_of _ (by decide +kernel)) ggX11_all_X11_refused
set_option maxRecDepth 20000 in
theorem ggX11_all_X11_in : GoodIn wsX11_all wsX11_in := goodIn_r _ [26] (by decide +kernel) (by decide +kernel)
set_option maxRecDepth 20000 in
theorem gX11_all_X11_in : GoodIn wsX11_all (va_wsS RX11 136 yX11_in wsX11_in) := goodIn_app (goodIn_of _ (by decide +kernel)) ggX11_all_X11_in
set_option maxRecDepth 20000 in
theorem ggX11_all_X11_chooses : GoodIn wsX11_all wsX11_chooses := goodIn_r _ [30, 4, 31, 32, 10, 33, 34, 35, 36, 37, 15, 38, 39, 40, 41, 42, 87, 88, 89, 90, 91, 92, 93, 94, 95, 96, 97, 98, 99, 100, 101, 102, 103, 104, 105, 106, 107, 108, 109, 110, 111, 112, 113, 114, 115, 116, 117, 118, 119, 120, 121, 122, 123, 124, 125, 126, 127, 128, 129, 130, 131, 132, 133, 134, 135, 136, 137, 138, 139, 140, 141, 142, 143, 144, 145, 146, 147, 148, 149, 150, 151, 152, 153, 154] (by decide +kernel) (by decide +kernel)
set_option maxRecDepth 20000 in
theorem gX11_all_X11_chooses : GoodIn wsX11_all (wsV RX11 321 RX11 yX11_chooses wsX11_chooses) := goodIn_app (goodIn_of _ (by decide +kernel)) ggX11_all_X11_chooses
set_option maxRecDepth 20000 in
theorem ggX11_all_X11_playsChoice : GoodIn wsX11_all wsX11_playsChoice := goodIn_r _ [46, 47, 48, 49, 15, 50, 51, 52, 11, 53, 54, 55, 56, 57, 58, 59, 60, 61, 62, 63, 35, 36, 37, 38, 39, 64, 65, 66, 67, 68, 69, 70, 71, 72, 73, 74, 75, 76, 77, 31, 78, 79, 80, 81, 82, 87, 88, 89, 90, 91, 92, 93, 94, 95, 96, 97, 98, 99, 100, 101, 102, 103, 104, 105, 106, 107, 108, 109, 110, 111, 112, 113, 114, 115, 116, 117, 118, 119, 120, 121, 122, 123, 124, 125, 126, 127, 128, 129, 130, 131, 132, 133, 134, 135, 136, 137, 138, 139, 140, 141, 142, 143, 144, 145, 146, 147, 148, 149, 150, 151, 152, 153, 154] (by decide +kernel) (by decide +kernel)
set_option maxRecDepth 20000 in
theorem gX11_all_X11_playsChoice : GoodIn wsX11_all (wsV RX11 337 RX11 yX11_playsChoice wsX11_playsChoice) := goodIn_app (goodIn_of _ (by decide +kernel)) ggX11_all_X11_playsChoice
set_option maxRecDepth 20000 in
theorem ggX11_all_X11_done : GoodIn wsX11_all wsX11_done := goodIn_r _ [86, 22, 23, 87, 88, 89, 90, 91, 92, 93, 94, 95, 96, 97, 98, 99, 100, 101, 102, 103, 104, 105, 106, 107, 108, 109, 110, 111, 112, 113, 114, 115, 116, 117, 118, 119, 120, 121, 122, 123, 124, 125, 126, 127, 128, 129, 130, 131, 132, 133, 134, 135, 136, 137, 138, 139, 140, 141, 142, 143, 144, 145, 146, 147, 148, 149, 150, 151, 152, 153, 154] (by decide +kernel) (by decide +kernel)
set_option maxRecDepth 20000 in
theorem gX11_all_X11_done : GoodIn wsX11_all (wsV RX11 130 RX11 yX11_done wsX11_done) := goodIn_app (goodIn_of _ (by decide +kernel)) ggX11_all_X11_done
theorem dX11_all_0 : decode cX11_all 0 = .ok (.aload_n 0, 1) := by decide +kernel
theorem dX11_all_1 : decode cX11_all 1 = .ok (.iconst 0, 1) := by decide +kernel
theorem dX11_all_2 : decode cX11_all 2 = .ok (.putfield 117, 3) := by decide +kernel
theorem dX11_all_5 : decode cX11_all 5 = .ok (.aload_n 0, 1) := by decide +kernel
theorem dX11_all_6 : decode cX11_all 6 = .ok (.iload_n 1, 1) := by decide +kernel
theorem dX11_all_7 : decode cX11_all 7 = .ok (.invokevirtual 251, 3) := by decide +kernel
theorem dX11_all_10 : decode cX11_all 10 = .ok (.ifCond .ne 9, 3) := by decide +kernel
theorem dX11_all_13 : decode cX11_all 13 = .ok (.aload_n 0, 1) := by decide +kernel
theorem dX11_all_14 : decode cX11_all 14 = .ok (.iconst 1, 1) := by decide +kernel
theorem dX11_all_15 : decode cX11_all 15 = .ok (.invokevirtual 126, 3) := by decide +kernel
theorem dX11_all_18 : decode cX11_all 18 = .ok (.ireturn, 1) := by decide +kernel
theorem dX11_all_19 : decode cX11_all 19 = .ok (.iload_n 2, 1) := by decide +kernel
theorem dX11_all_20 : decode cX11_all 20 = .ok (.iconst 0, 1) := by decide +kernel
theorem dX11_all_21 : decode cX11_all 21 = .ok (.sipush 255, 3) := by decide +kernel
theorem dX11_all_24 : decode cX11_all 24 = .ok (.invokestatic 136, 3) := by decide +kernel
theorem dX11_all_27 : decode cX11_all 27 = .ok (.ifCond .eq 35, 3) := by decide +kernel
theorem dX11_all_30 : decode cX11_all 30 = .ok (.iload_n 3, 1) := by decide +kernel
theorem dX11_all_31 : decode cX11_all 31 = .ok (.iconst 0, 1) := by decide +kernel
theorem dX11_all_32 : decode cX11_all 32 = .ok (.bipush 8, 2) := by decide +kernel
theorem dX11_all_34 : decode cX11_all 34 = .ok (.invokestatic 136, 3) := by decide +kernel
theorem dX11_all_37 : decode cX11_all 37 = .ok (.ifCond .eq 25, 3) := by decide +kernel
theorem dX11_all_40 : decode cX11_all 40 = .ok (.iload 4, 2) := by decide +kernel
theorem dX11_all_42 : decode cX11_all 42 = .ok (.iconst 0, 1) := by decide +kernel
theorem dX11_all_43 : decode cX11_all 43 = .ok (.bipush 8, 2) := by decide +kernel
theorem dX11_all_45 : decode cX11_all 45 = .ok (.invokestatic 136, 3) := by decide +kernel
theorem dX11_all_48 : decode cX11_all 48 = .ok (.ifCond .eq 14, 3) := by decide +kernel
theorem dX11_all_51 : decode cX11_all 51 = .ok (.iload 5, 2) := by decide +kernel
theorem dX11_all_53 : decode cX11_all 53 = .ok (.iconst 0, 1) := by decide +kernel
theorem dX11_all_54 : decode cX11_all 54 = .ok (.bipush 8, 2) := by decide +kernel
theorem dX11_all_56 : decode cX11_all 56 = .ok (.invokestatic 136, 3) := by decide +kernel
theorem dX11_all_59 : decode cX11_all 59 = .ok (.ifCond .ne 9, 3) := by decide +kernel
theorem dX11_all_62 : decode cX11_all 62 = .ok (.aload_n 0, 1) := by decide +kernel
theorem dX11_all_63 : decode cX11_all 63 = .ok (.iconst 2, 1) := by decide +kernel
theorem dX11_all_64 : decode cX11_all 64 = .ok (.invokevirtual 126, 3) := by decide +kernel
theorem dX11_all_67 : decode cX11_all 67 = .ok (.ireturn, 1) := by decide +kernel
theorem dX11_all_68 : decode cX11_all 68 = .ok (.aload_n 0, 1) := by decide +kernel
theorem dX11_all_69 : decode cX11_all 69 = .ok (.iload_n 2, 1) := by decide +kernel
theorem dX11_all_70 : decode cX11_all 70 = .ok (.iload_n 3, 1) := by decide +kernel
theorem dX11_all_71 : decode cX11_all 71 = .ok (.iload 4, 2) := by decide +kernel
theorem dX11_all_73 : decode cX11_all 73 = .ok (.iload 5, 2) := by decide +kernel
theorem dX11_all_75 : decode cX11_all 75 = .ok (.invokevirtual 321, 3) := by decide +kernel
theorem dX11_all_78 : decode cX11_all 78 = .ok (.ifCond .ne 9, 3) := by decide +kernel
theorem dX11_all_81 : decode cX11_all 81 = .ok (.aload_n 0, 1) := by decide +kernel
theorem dX11_all_82 : decode cX11_all 82 = .ok (.iconst 3, 1) := by decide +kernel
theorem dX11_all_83 : decode cX11_all 83 = .ok (.invokevirtual 126, 3) := by decide +kernel
theorem dX11_all_86 : decode cX11_all 86 = .ok (.ireturn, 1) := by decide +kernel
theorem dX11_all_87 : decode cX11_all 87 = .ok (.aload_n 0, 1) := by decide +kernel
theorem dX11_all_88 : decode cX11_all 88 = .ok (.iconst 1, 1) := by decide +kernel
theorem dX11_all_89 : decode cX11_all 89 = .ok (.putfield 325, 3) := by decide +kernel
theorem dX11_all_92 : decode cX11_all 92 = .ok (.aload_n 0, 1) := by decide +kernel
theorem dX11_all_93 : decode cX11_all 93 = .ok (.iload_n 1, 1) := by decide +kernel
theorem dX11_all_94 : decode cX11_all 94 = .ok (.putfield 328, 3) := by decide +kernel
theorem dX11_all_97 : decode cX11_all 97 = .ok (.aload_n 0, 1) := by decide +kernel
theorem dX11_all_98 : decode cX11_all 98 = .ok (.aload_n 0, 1) := by decide +kernel
theorem dX11_all_99 : decode cX11_all 99 = .ok (.getfield 314, 3) := by decide +kernel
theorem dX11_all_102 : decode cX11_all 102 = .ok (.putfield 331, 3) := by decide +kernel
theorem dX11_all_105 : decode cX11_all 105 = .ok (.aload_n 0, 1) := by decide +kernel
theorem dX11_all_106 : decode cX11_all 106 = .ok (.iconst 0, 1) := by decide +kernel
theorem dX11_all_107 : decode cX11_all 107 = .ok (.putfield 334, 3) := by decide +kernel
theorem dX11_all_110 : decode cX11_all 110 = .ok (.iconst 0, 1) := by decide +kernel
theorem dX11_all_111 : decode cX11_all 111 = .ok (.istore 6, 2) := by decide +kernel
theorem dX11_all_113 : decode cX11_all 113 = .ok (.iload 6, 2) := by decide +kernel
theorem dX11_all_115 : decode cX11_all 115 = .ok (.bipush 7, 2) := by decide +kernel
theorem dX11_all_117 : decode cX11_all 117 = .ok (.if_icmp .ge 17, 3) := by decide +kernel
theorem dX11_all_120 : decode cX11_all 120 = .ok (.aload_n 0, 1) := by decide +kernel
theorem dX11_all_121 : decode cX11_all 121 = .ok (.getfield 76, 3) := by decide +kernel
theorem dX11_all_124 : decode cX11_all 124 = .ok (.iload 6, 2) := by decide +kernel
theorem dX11_all_126 : decode cX11_all 126 = .ok (.iconst 0, 1) := by decide +kernel
theorem dX11_all_127 : decode cX11_all 127 = .ok (.iastore, 1) := by decide +kernel
theorem dX11_all_128 : decode cX11_all 128 = .ok (.iinc 6 1, 3) := by decide +kernel
theorem dX11_all_131 : decode cX11_all 131 = .ok (.goto (-18), 3) := by decide +kernel
theorem dX11_all_134 : decode cX11_all 134 = .ok (.iconst 0, 1) := by decide +kernel
theorem dX11_all_135 : decode cX11_all 135 = .ok (.istore 6, 2) := by decide +kernel
theorem dX11_all_137 : decode cX11_all 137 = .ok (.iload 6, 2) := by decide +kernel
theorem dX11_all_139 : decode cX11_all 139 = .ok (.bipush 8, 2) := by decide +kernel
theorem dX11_all_141 : decode cX11_all 141 = .ok (.if_icmp .ge 17, 3) := by decide +kernel
theorem dX11_all_144 : decode cX11_all 144 = .ok (.aload_n 0, 1) := by decide +kernel
theorem dX11_all_145 : decode cX11_all 145 = .ok (.getfield 79, 3) := by decide +kernel
theorem dX11_all_148 : decode cX11_all 148 = .ok (.iload 6, 2) := by decide +kernel
theorem dX11_all_150 : decode cX11_all 150 = .ok (.iconst (-1), 1) := by decide +kernel
theorem dX11_all_151 : decode cX11_all 151 = .ok (.iastore, 1) := by decide +kernel
theorem dX11_all_152 : decode cX11_all 152 = .ok (.iinc 6 1, 3) := by decide +kernel
theorem dX11_all_155 : decode cX11_all 155 = .ok (.goto (-18), 3) := by decide +kernel
