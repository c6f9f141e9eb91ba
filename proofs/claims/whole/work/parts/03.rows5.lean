theorem dX11_all_158 : decode cX11_all 158 = .ok (.aload_n 0, 1) := by decide +kernel
theorem dX11_all_159 : decode cX11_all 159 = .ok (.getfield 79, 3) := by decide +kernel
theorem dX11_all_162 : decode cX11_all 162 = .ok (.iconst 0, 1) := by decide +kernel
theorem dX11_all_163 : decode cX11_all 163 = .ok (.aload_n 0, 1) := by decide +kernel
theorem dX11_all_164 : decode cX11_all 164 = .ok (.getfield 314, 3) := by decide +kernel
theorem dX11_all_167 : decode cX11_all 167 = .ok (.iastore, 1) := by decide +kernel
theorem dX11_all_168 : decode cX11_all 168 = .ok (.iconst 0, 1) := by decide +kernel
theorem dX11_all_169 : decode cX11_all 169 = .ok (.istore 6, 2) := by decide +kernel
theorem dX11_all_171 : decode cX11_all 171 = .ok (.iload 6, 2) := by decide +kernel
theorem dX11_all_173 : decode cX11_all 173 = .ok (.aload_n 0, 1) := by decide +kernel
theorem dX11_all_174 : decode cX11_all 174 = .ok (.getfield 314, 3) := by decide +kernel
theorem dX11_all_177 : decode cX11_all 177 = .ok (.if_icmp .ge 200, 3) := by decide +kernel
theorem dX11_all_180 : decode cX11_all 180 = .ok (.aload_n 0, 1) := by decide +kernel
theorem dX11_all_181 : decode cX11_all 181 = .ok (.getfield 73, 3) := by decide +kernel
theorem dX11_all_184 : decode cX11_all 184 = .ok (.iload 6, 2) := by decide +kernel
theorem dX11_all_186 : decode cX11_all 186 = .ok (.aload_n 0, 1) := by decide +kernel
theorem dX11_all_187 : decode cX11_all 187 = .ok (.getfield 67, 3) := by decide +kernel
theorem dX11_all_190 : decode cX11_all 190 = .ok (.iload 6, 2) := by decide +kernel
theorem dX11_all_192 : decode cX11_all 192 = .ok (.iaload, 1) := by decide +kernel
theorem dX11_all_193 : decode cX11_all 193 = .ok (.iastore, 1) := by decide +kernel
theorem dX11_all_194 : decode cX11_all 194 = .ok (.aload_n 0, 1) := by decide +kernel
theorem dX11_all_195 : decode cX11_all 195 = .ok (.iload_n 1, 1) := by decide +kernel
theorem dX11_all_196 : decode cX11_all 196 = .ok (.aload_n 0, 1) := by decide +kernel
theorem dX11_all_197 : decode cX11_all 197 = .ok (.getfield 67, 3) := by decide +kernel
theorem dX11_all_200 : decode cX11_all 200 = .ok (.iload 6, 2) := by decide +kernel
theorem dX11_all_202 : decode cX11_all 202 = .ok (.iaload, 1) := by decide +kernel
theorem dX11_all_203 : decode cX11_all 203 = .ok (.invokevirtual 337, 3) := by decide +kernel
theorem dX11_all_206 : decode cX11_all 206 = .ok (.istore 7, 2) := by decide +kernel
theorem dX11_all_208 : decode cX11_all 208 = .ok (.aload_n 0, 1) := by decide +kernel
theorem dX11_all_209 : decode cX11_all 209 = .ok (.getfield 76, 3) := by decide +kernel
theorem dX11_all_212 : decode cX11_all 212 = .ok (.iload 7, 2) := by decide +kernel
theorem dX11_all_214 : decode cX11_all 214 = .ok (.dup2, 1) := by decide +kernel
theorem dX11_all_215 : decode cX11_all 215 = .ok (.iaload, 1) := by decide +kernel
theorem dX11_all_216 : decode cX11_all 216 = .ok (.iconst 1, 1) := by decide +kernel
theorem dX11_all_217 : decode cX11_all 217 = .ok (.iadd, 1) := by decide +kernel
theorem dX11_all_218 : decode cX11_all 218 = .ok (.iastore, 1) := by decide +kernel
theorem dX11_all_219 : decode cX11_all 219 = .ok (.iload 7, 2) := by decide +kernel
theorem dX11_all_221 : decode cX11_all 221 = .ok (.ifCond .ne 71, 3) := by decide +kernel
theorem dX11_all_224 : decode cX11_all 224 = .ok (.aload_n 0, 1) := by decide +kernel
theorem dX11_all_225 : decode cX11_all 225 = .ok (.getfield 79, 3) := by decide +kernel
theorem dX11_all_228 : decode cX11_all 228 = .ok (.iconst 1, 1) := by decide +kernel
theorem dX11_all_229 : decode cX11_all 229 = .ok (.iaload, 1) := by decide +kernel
theorem dX11_all_230 : decode cX11_all 230 = .ok (.iconst (-1), 1) := by decide +kernel
theorem dX11_all_231 : decode cX11_all 231 = .ok (.if_icmp .eq 16, 3) := by decide +kernel
theorem dX11_all_234 : decode cX11_all 234 = .ok (.aload_n 0, 1) := by decide +kernel
theorem dX11_all_235 : decode cX11_all 235 = .ok (.getfield 263, 3) := by decide +kernel
theorem dX11_all_238 : decode cX11_all 238 = .ok (.aload_n 0, 1) := by decide +kernel
theorem dX11_all_239 : decode cX11_all 239 = .ok (.getfield 79, 3) := by decide +kernel
theorem dX11_all_242 : decode cX11_all 242 = .ok (.iconst 1, 1) := by decide +kernel
theorem dX11_all_243 : decode cX11_all 243 = .ok (.iaload, 1) := by decide +kernel
theorem dX11_all_244 : decode cX11_all 244 = .ok (.if_icmp .ge 13, 3) := by decide +kernel
theorem dX11_all_247 : decode cX11_all 247 = .ok (.aload_n 0, 1) := by decide +kernel
theorem dX11_all_248 : decode cX11_all 248 = .ok (.getfield 79, 3) := by decide +kernel
theorem dX11_all_251 : decode cX11_all 251 = .ok (.iconst 1, 1) := by decide +kernel
theorem dX11_all_252 : decode cX11_all 252 = .ok (.aload_n 0, 1) := by decide +kernel
theorem dX11_all_253 : decode cX11_all 253 = .ok (.getfield 263, 3) := by decide +kernel
theorem dX11_all_256 : decode cX11_all 256 = .ok (.iastore, 1) := by decide +kernel
theorem dX11_all_257 : decode cX11_all 257 = .ok (.aload_n 0, 1) := by decide +kernel
theorem dX11_all_258 : decode cX11_all 258 = .ok (.getfield 263, 3) := by decide +kernel
theorem dX11_all_261 : decode cX11_all 261 = .ok (.aload_n 0, 1) := by decide +kernel
theorem dX11_all_262 : decode cX11_all 262 = .ok (.getfield 79, 3) := by decide +kernel
theorem dX11_all_265 : decode cX11_all 265 = .ok (.iconst 2, 1) := by decide +kernel
theorem dX11_all_266 : decode cX11_all 266 = .ok (.iaload, 1) := by decide +kernel
theorem dX11_all_267 : decode cX11_all 267 = .ok (.if_icmp .le 104, 3) := by decide +kernel
theorem dX11_all_270 : decode cX11_all 270 = .ok (.aload_n 0, 1) := by decide +kernel
theorem dX11_all_271 : decode cX11_all 271 = .ok (.getfield 79, 3) := by decide +kernel
theorem dX11_all_274 : decode cX11_all 274 = .ok (.iconst 2, 1) := by decide +kernel
theorem dX11_all_275 : decode cX11_all 275 = .ok (.aload_n 0, 1) := by decide +kernel
theorem dX11_all_276 : decode cX11_all 276 = .ok (.getfield 263, 3) := by decide +kernel
theorem dX11_all_279 : decode cX11_all 279 = .ok (.iastore, 1) := by decide +kernel
theorem dX11_all_280 : decode cX11_all 280 = .ok (.aload_n 0, 1) := by decide +kernel
theorem dX11_all_281 : decode cX11_all 281 = .ok (.getfield 79, 3) := by decide +kernel
theorem dX11_all_284 : decode cX11_all 284 = .ok (.bipush 7, 2) := by decide +kernel
theorem dX11_all_286 : decode cX11_all 286 = .ok (.iload 6, 2) := by decide +kernel
theorem dX11_all_288 : decode cX11_all 288 = .ok (.iastore, 1) := by decide +kernel
theorem dX11_all_289 : decode cX11_all 289 = .ok (.goto 82, 3) := by decide +kernel
theorem dX11_all_292 : decode cX11_all 292 = .ok (.aload_n 0, 1) := by decide +kernel
theorem dX11_all_293 : decode cX11_all 293 = .ok (.getfield 334, 3) := by decide +kernel
theorem dX11_all_296 : decode cX11_all 296 = .ok (.ifCond .ne 65, 3) := by decide +kernel
theorem dX11_all_299 : decode cX11_all 299 = .ok (.aload_n 0, 1) := by decide +kernel
theorem dX11_all_300 : decode cX11_all 300 = .ok (.getfield 79, 3) := by decide +kernel
theorem dX11_all_303 : decode cX11_all 303 = .ok (.iconst 3, 1) := by decide +kernel
theorem dX11_all_304 : decode cX11_all 304 = .ok (.aload_n 0, 1) := by decide +kernel
theorem dX11_all_305 : decode cX11_all 305 = .ok (.getfield 67, 3) := by decide +kernel
theorem dX11_all_308 : decode cX11_all 308 = .ok (.iload 6, 2) := by decide +kernel
theorem dX11_all_310 : decode cX11_all 310 = .ok (.iaload, 1) := by decide +kernel
theorem dX11_all_311 : decode cX11_all 311 = .ok (.sipush 255, 3) := by decide +kernel
theorem dX11_all_314 : decode cX11_all 314 = .ok (.iand, 1) := by decide +kernel
theorem dX11_all_315 : decode cX11_all 315 = .ok (.iastore, 1) := by decide +kernel
theorem dX11_all_316 : decode cX11_all 316 = .ok (.aload_n 0, 1) := by decide +kernel
theorem dX11_all_317 : decode cX11_all 317 = .ok (.getfield 79, 3) := by decide +kernel
theorem dX11_all_320 : decode cX11_all 320 = .ok (.iconst 4, 1) := by decide +kernel
theorem dX11_all_321 : decode cX11_all 321 = .ok (.aload_n 0, 1) := by decide +kernel
theorem dX11_all_322 : decode cX11_all 322 = .ok (.getfield 67, 3) := by decide +kernel
theorem dX11_all_325 : decode cX11_all 325 = .ok (.iload 6, 2) := by decide +kernel
theorem dX11_all_327 : decode cX11_all 327 = .ok (.iaload, 1) := by decide +kernel
theorem dX11_all_328 : decode cX11_all 328 = .ok (.bipush 8, 2) := by decide +kernel
theorem dX11_all_330 : decode cX11_all 330 = .ok (.ishr, 1) := by decide +kernel
theorem dX11_all_331 : decode cX11_all 331 = .ok (.sipush 255, 3) := by decide +kernel
theorem dX11_all_334 : decode cX11_all 334 = .ok (.iand, 1) := by decide +kernel
theorem dX11_all_335 : decode cX11_all 335 = .ok (.iastore, 1) := by decide +kernel
theorem dX11_all_336 : decode cX11_all 336 = .ok (.aload_n 0, 1) := by decide +kernel
theorem dX11_all_337 : decode cX11_all 337 = .ok (.getfield 79, 3) := by decide +kernel
theorem dX11_all_340 : decode cX11_all 340 = .ok (.iconst 5, 1) := by decide +kernel
theorem dX11_all_341 : decode cX11_all 341 = .ok (.aload_n 0, 1) := by decide +kernel
theorem dX11_all_342 : decode cX11_all 342 = .ok (.getfield 67, 3) := by decide +kernel
theorem dX11_all_345 : decode cX11_all 345 = .ok (.iload 6, 2) := by decide +kernel
theorem dX11_all_347 : decode cX11_all 347 = .ok (.iaload, 1) := by decide +kernel
theorem dX11_all_348 : decode cX11_all 348 = .ok (.bipush 16, 2) := by decide +kernel
theorem dX11_all_350 : decode cX11_all 350 = .ok (.ishr, 1) := by decide +kernel
theorem dX11_all_351 : decode cX11_all 351 = .ok (.iastore, 1) := by decide +kernel
theorem dX11_all_352 : decode cX11_all 352 = .ok (.aload_n 0, 1) := by decide +kernel
theorem dX11_all_353 : decode cX11_all 353 = .ok (.getfield 79, 3) := by decide +kernel
theorem dX11_all_356 : decode cX11_all 356 = .ok (.bipush 6, 2) := by decide +kernel
theorem dX11_all_358 : decode cX11_all 358 = .ok (.iload 7, 2) := by decide +kernel
theorem dX11_all_360 : decode cX11_all 360 = .ok (.iastore, 1) := by decide +kernel
theorem dX11_all_361 : decode cX11_all 361 = .ok (.aload_n 0, 1) := by decide +kernel
theorem dX11_all_362 : decode cX11_all 362 = .ok (.dup, 1) := by decide +kernel
theorem dX11_all_363 : decode cX11_all 363 = .ok (.getfield 334, 3) := by decide +kernel
theorem dX11_all_366 : decode cX11_all 366 = .ok (.iconst 1, 1) := by decide +kernel
theorem dX11_all_367 : decode cX11_all 367 = .ok (.iadd, 1) := by decide +kernel
theorem dX11_all_368 : decode cX11_all 368 = .ok (.putfield 334, 3) := by decide +kernel
theorem dX11_all_371 : decode cX11_all 371 = .ok (.iinc 6 1, 3) := by decide +kernel
theorem dX11_all_374 : decode cX11_all 374 = .ok (.goto (-203), 3) := by decide +kernel
theorem dX11_all_377 : decode cX11_all 377 = .ok (.aload_n 0, 1) := by decide +kernel
theorem dX11_all_378 : decode cX11_all 378 = .ok (.aload_n 0, 1) := by decide +kernel
theorem dX11_all_379 : decode cX11_all 379 = .ok (.getfield 334, 3) := by decide +kernel
theorem dX11_all_382 : decode cX11_all 382 = .ok (.invokevirtual 130, 3) := by decide +kernel
theorem dX11_all_385 : decode cX11_all 385 = .ok (.ireturn, 1) := by decide +kernel
set_option maxRecDepth 20000 in
theorem ggX11_ended_X11_in : GoodIn wsX11_ended wsX11_in := goodIn_r _ [7] (by decide +kernel) (by decide +kernel)
set_option maxRecDepth 20000 in
theorem gX11_ended_X11_in : GoodIn wsX11_ended (va_wsS RX11 136 yX11_in wsX11_in) := goodIn_app (goodIn_of _ (by decide +kernel)) ggX11_ended_X11_in
theorem dX11_ended_0 : decode cX11_ended 0 = .ok (.aload_n 0, 1) := by decide +kernel
theorem dX11_ended_1 : decode cX11_ended 1 = .ok (.iconst 0, 1) := by decide +kernel
theorem dX11_ended_2 : decode cX11_ended 2 = .ok (.putfield 117, 3) := by decide +kernel
theorem dX11_ended_5 : decode cX11_ended 5 = .ok (.aload_n 0, 1) := by decide +kernel
theorem dX11_ended_6 : decode cX11_ended 6 = .ok (.getfield 325, 3) := by decide +kernel
theorem dX11_ended_9 : decode cX11_ended 9 = .ok (.ifCond .eq 22, 3) := by decide +kernel
theorem dX11_ended_12 : decode cX11_ended 12 = .ok (.iload_n 1, 1) := by decide +kernel
theorem dX11_ended_13 : decode cX11_ended 13 = .ok (.iconst 0, 1) := by decide +kernel
theorem dX11_ended_14 : decode cX11_ended 14 = .ok (.bipush 6, 2) := by decide +kernel
theorem dX11_ended_16 : decode cX11_ended 16 = .ok (.invokestatic 136, 3) := by decide +kernel
theorem dX11_ended_19 : decode cX11_ended 19 = .ok (.ifCond .eq 12, 3) := by decide +kernel
theorem dX11_ended_22 : decode cX11_ended 22 = .ok (.aload_n 0, 1) := by decide +kernel
theorem dX11_ended_23 : decode cX11_ended 23 = .ok (.getfield 76, 3) := by decide +kernel
theorem dX11_ended_26 : decode cX11_ended 26 = .ok (.iload_n 1, 1) := by decide +kernel
theorem dX11_ended_27 : decode cX11_ended 27 = .ok (.iaload, 1) := by decide +kernel
theorem dX11_ended_28 : decode cX11_ended 28 = .ok (.goto 4, 3) := by decide +kernel
theorem dX11_ended_31 : decode cX11_ended 31 = .ok (.iconst (-1), 1) := by decide +kernel
theorem dX11_ended_32 : decode cX11_ended 32 = .ok (.ireturn, 1) := by decide +kernel
set_option maxRecDepth 20000 in
theorem ggX11_allOf_X11_in : GoodIn wsX11_allOf wsX11_in := goodIn_r _ [7] (by decide +kernel) (by decide +kernel)
set_option maxRecDepth 20000 in
theorem gX11_allOf_X11_in : GoodIn wsX11_allOf (va_wsS RX11 136 yX11_in wsX11_in) := goodIn_app (goodIn_of _ (by decide +kernel)) ggX11_allOf_X11_in
theorem dX11_allOf_0 : decode cX11_allOf 0 = .ok (.aload_n 0, 1) := by decide +kernel
theorem dX11_allOf_1 : decode cX11_allOf 1 = .ok (.iconst 0, 1) := by decide +kernel
theorem dX11_allOf_2 : decode cX11_allOf 2 = .ok (.putfield 117, 3) := by decide +kernel
theorem dX11_allOf_5 : decode cX11_allOf 5 = .ok (.aload_n 0, 1) := by decide +kernel
theorem dX11_allOf_6 : decode cX11_allOf 6 = .ok (.getfield 325, 3) := by decide +kernel
theorem dX11_allOf_9 : decode cX11_allOf 9 = .ok (.ifCond .eq 22, 3) := by decide +kernel
theorem dX11_allOf_12 : decode cX11_allOf 12 = .ok (.iload_n 1, 1) := by decide +kernel
theorem dX11_allOf_13 : decode cX11_allOf 13 = .ok (.iconst 0, 1) := by decide +kernel
theorem dX11_allOf_14 : decode cX11_allOf 14 = .ok (.bipush 7, 2) := by decide +kernel
theorem dX11_allOf_16 : decode cX11_allOf 16 = .ok (.invokestatic 136, 3) := by decide +kernel
theorem dX11_allOf_19 : decode cX11_allOf 19 = .ok (.ifCond .eq 12, 3) := by decide +kernel
theorem dX11_allOf_22 : decode cX11_allOf 22 = .ok (.aload_n 0, 1) := by decide +kernel
theorem dX11_allOf_23 : decode cX11_allOf 23 = .ok (.getfield 79, 3) := by decide +kernel
theorem dX11_allOf_26 : decode cX11_allOf 26 = .ok (.iload_n 1, 1) := by decide +kernel
theorem dX11_allOf_27 : decode cX11_allOf 27 = .ok (.iaload, 1) := by decide +kernel
theorem dX11_allOf_28 : decode cX11_allOf 28 = .ok (.goto 4, 3) := by decide +kernel
theorem dX11_allOf_31 : decode cX11_allOf 31 = .ok (.iconst (-1), 1) := by decide +kernel
theorem dX11_allOf_32 : decode cX11_allOf 32 = .ok (.ireturn, 1) := by decide +kernel
theorem dX11_reaches_0 : decode cX11_reaches 0 = .ok (.iconst 0, 1) := by decide +kernel
theorem dX11_reaches_1 : decode cX11_reaches 1 = .ok (.istore_n 2, 1) := by decide +kernel
theorem dX11_reaches_2 : decode cX11_reaches 2 = .ok (.iload_n 2, 1) := by decide +kernel
theorem dX11_reaches_3 : decode cX11_reaches 3 = .ok (.bipush 24, 2) := by decide +kernel
theorem dX11_reaches_5 : decode cX11_reaches 5 = .ok (.if_icmp .ge 24, 3) := by decide +kernel
theorem dX11_reaches_8 : decode cX11_reaches 8 = .ok (.aload_n 0, 1) := by decide +kernel
theorem dX11_reaches_9 : decode cX11_reaches 9 = .ok (.getfield 82, 3) := by decide +kernel
theorem dX11_reaches_12 : decode cX11_reaches 12 = .ok (.iload_n 2, 1) := by decide +kernel
theorem dX11_reaches_13 : decode cX11_reaches 13 = .ok (.iload_n 2, 1) := by decide +kernel
theorem dX11_reaches_14 : decode cX11_reaches 14 = .ok (.ifCond .ne 7, 3) := by decide +kernel
theorem dX11_reaches_17 : decode cX11_reaches 17 = .ok (.iconst 1, 1) := by decide +kernel
theorem dX11_reaches_18 : decode cX11_reaches 18 = .ok (.goto 4, 3) := by decide +kernel
theorem dX11_reaches_21 : decode cX11_reaches 21 = .ok (.iconst 0, 1) := by decide +kernel
theorem dX11_reaches_22 : decode cX11_reaches 22 = .ok (.bastore, 1) := by decide +kernel
theorem dX11_reaches_23 : decode cX11_reaches 23 = .ok (.iinc 2 1, 3) := by decide +kernel
theorem dX11_reaches_26 : decode cX11_reaches 26 = .ok (.goto (-24), 3) := by decide +kernel
theorem dX11_reaches_29 : decode cX11_reaches 29 = .ok (.iconst 1, 1) := by decide +kernel
theorem dX11_reaches_30 : decode cX11_reaches 30 = .ok (.istore_n 2, 1) := by decide +kernel
theorem dX11_reaches_31 : decode cX11_reaches 31 = .ok (.iload_n 2, 1) := by decide +kernel
theorem dX11_reaches_32 : decode cX11_reaches 32 = .ok (.ifCond .eq 223, 3) := by decide +kernel
theorem dX11_reaches_35 : decode cX11_reaches 35 = .ok (.iconst 0, 1) := by decide +kernel
theorem dX11_reaches_36 : decode cX11_reaches 36 = .ok (.istore_n 2, 1) := by decide +kernel
theorem dX11_reaches_37 : decode cX11_reaches 37 = .ok (.iconst 0, 1) := by decide +kernel
theorem dX11_reaches_38 : decode cX11_reaches 38 = .ok (.istore_n 3, 1) := by decide +kernel
theorem dX11_reaches_39 : decode cX11_reaches 39 = .ok (.iload_n 3, 1) := by decide +kernel
theorem dX11_reaches_40 : decode cX11_reaches 40 = .ok (.aload_n 0, 1) := by decide +kernel
theorem dX11_reaches_41 : decode cX11_reaches 41 = .ok (.getfield 23, 3) := by decide +kernel
theorem dX11_reaches_44 : decode cX11_reaches 44 = .ok (.iload_n 1, 1) := by decide +kernel
theorem dX11_reaches_45 : decode cX11_reaches 45 = .ok (.iaload, 1) := by decide +kernel
theorem dX11_reaches_46 : decode cX11_reaches 46 = .ok (.if_icmp .ge 206, 3) := by decide +kernel
theorem dX11_reaches_49 : decode cX11_reaches 49 = .ok (.aload_n 0, 1) := by decide +kernel
theorem dX11_reaches_50 : decode cX11_reaches 50 = .ok (.getfield 82, 3) := by decide +kernel
theorem dX11_reaches_53 : decode cX11_reaches 53 = .ok (.iload_n 3, 1) := by decide +kernel
theorem dX11_reaches_54 : decode cX11_reaches 54 = .ok (.baload, 1) := by decide +kernel
theorem dX11_reaches_55 : decode cX11_reaches 55 = .ok (.ifCond .ne 6, 3) := by decide +kernel
theorem dX11_reaches_58 : decode cX11_reaches 58 = .ok (.goto 188, 3) := by decide +kernel
theorem dX11_reaches_61 : decode cX11_reaches 61 = .ok (.bipush 24, 2) := by decide +kernel
theorem dX11_reaches_63 : decode cX11_reaches 63 = .ok (.iload_n 1, 1) := by decide +kernel
theorem dX11_reaches_64 : decode cX11_reaches 64 = .ok (.imul, 1) := by decide +kernel
theorem dX11_reaches_65 : decode cX11_reaches 65 = .ok (.iload_n 3, 1) := by decide +kernel
theorem dX11_reaches_66 : decode cX11_reaches 66 = .ok (.iadd, 1) := by decide +kernel
theorem dX11_reaches_67 : decode cX11_reaches 67 = .ok (.istore 4, 2) := by decide +kernel
theorem dX11_reaches_69 : decode cX11_reaches 69 = .ok (.aload_n 0, 1) := by decide +kernel
theorem dX11_reaches_70 : decode cX11_reaches 70 = .ok (.getfield 26, 3) := by decide +kernel
theorem dX11_reaches_73 : decode cX11_reaches 73 = .ok (.iload 4, 2) := by decide +kernel
theorem dX11_reaches_75 : decode cX11_reaches 75 = .ok (.iaload, 1) := by decide +kernel
theorem dX11_reaches_76 : decode cX11_reaches 76 = .ok (.iconst 2, 1) := by decide +kernel
theorem dX11_reaches_77 : decode cX11_reaches 77 = .ok (.if_icmp .ne 13, 3) := by decide +kernel
theorem dX11_reaches_80 : decode cX11_reaches 80 = .ok (.aload_n 0, 1) := by decide +kernel
theorem dX11_reaches_81 : decode cX11_reaches 81 = .ok (.getfield 32, 3) := by decide +kernel
theorem dX11_reaches_84 : decode cX11_reaches 84 = .ok (.iload 4, 2) := by decide +kernel
theorem dX11_reaches_86 : decode cX11_reaches 86 = .ok (.iaload, 1) := by decide +kernel
theorem dX11_reaches_87 : decode cX11_reaches 87 = .ok (.goto 42, 3) := by decide +kernel
theorem dX11_reaches_90 : decode cX11_reaches 90 = .ok (.aload_n 0, 1) := by decide +kernel
theorem dX11_reaches_91 : decode cX11_reaches 91 = .ok (.getfield 26, 3) := by decide +kernel
theorem dX11_reaches_94 : decode cX11_reaches 94 = .ok (.iload 4, 2) := by decide +kernel
theorem dX11_reaches_96 : decode cX11_reaches 96 = .ok (.iaload, 1) := by decide +kernel
theorem dX11_reaches_97 : decode cX11_reaches 97 = .ok (.iconst 4, 1) := by decide +kernel
theorem dX11_reaches_98 : decode cX11_reaches 98 = .ok (.if_icmp .ne 13, 3) := by decide +kernel
theorem dX11_reaches_101 : decode cX11_reaches 101 = .ok (.aload_n 0, 1) := by decide +kernel
theorem dX11_reaches_102 : decode cX11_reaches 102 = .ok (.getfield 29, 3) := by decide +kernel
theorem dX11_reaches_105 : decode cX11_reaches 105 = .ok (.iload 4, 2) := by decide +kernel
theorem dX11_reaches_107 : decode cX11_reaches 107 = .ok (.iaload, 1) := by decide +kernel
theorem dX11_reaches_108 : decode cX11_reaches 108 = .ok (.goto 21, 3) := by decide +kernel
theorem dX11_reaches_111 : decode cX11_reaches 111 = .ok (.aload_n 0, 1) := by decide +kernel
theorem dX11_reaches_112 : decode cX11_reaches 112 = .ok (.getfield 26, 3) := by decide +kernel
theorem dX11_reaches_115 : decode cX11_reaches 115 = .ok (.iload 4, 2) := by decide +kernel
theorem dX11_reaches_117 : decode cX11_reaches 117 = .ok (.iaload, 1) := by decide +kernel
theorem dX11_reaches_118 : decode cX11_reaches 118 = .ok (.iconst 5, 1) := by decide +kernel
theorem dX11_reaches_119 : decode cX11_reaches 119 = .ok (.if_icmp .ne 7, 3) := by decide +kernel
theorem dX11_reaches_122 : decode cX11_reaches 122 = .ok (.iload_n 3, 1) := by decide +kernel
theorem dX11_reaches_123 : decode cX11_reaches 123 = .ok (.goto 6, 3) := by decide +kernel
theorem dX11_reaches_126 : decode cX11_reaches 126 = .ok (.iload_n 3, 1) := by decide +kernel
theorem dX11_reaches_127 : decode cX11_reaches 127 = .ok (.iconst 1, 1) := by decide +kernel
theorem dX11_reaches_128 : decode cX11_reaches 128 = .ok (.iadd, 1) := by decide +kernel
theorem dX11_reaches_129 : decode cX11_reaches 129 = .ok (.istore 5, 2) := by decide +kernel
theorem dX11_reaches_131 : decode cX11_reaches 131 = .ok (.aload_n 0, 1) := by decide +kernel
theorem dX11_reaches_132 : decode cX11_reaches 132 = .ok (.getfield 26, 3) := by decide +kernel
theorem dX11_reaches_135 : decode cX11_reaches 135 = .ok (.iload 4, 2) := by decide +kernel
theorem dX11_reaches_137 : decode cX11_reaches 137 = .ok (.iaload, 1) := by decide +kernel
theorem dX11_reaches_138 : decode cX11_reaches 138 = .ok (.iconst 2, 1) := by decide +kernel
theorem dX11_reaches_139 : decode cX11_reaches 139 = .ok (.if_icmp .ne 13, 3) := by decide +kernel
theorem dX11_reaches_142 : decode cX11_reaches 142 = .ok (.aload_n 0, 1) := by decide +kernel
theorem dX11_reaches_143 : decode cX11_reaches 143 = .ok (.getfield 35, 3) := by decide +kernel
theorem dX11_reaches_146 : decode cX11_reaches 146 = .ok (.iload 4, 2) := by decide +kernel
theorem dX11_reaches_148 : decode cX11_reaches 148 = .ok (.iaload, 1) := by decide +kernel
theorem dX11_reaches_149 : decode cX11_reaches 149 = .ok (.goto 5, 3) := by decide +kernel
theorem dX11_reaches_152 : decode cX11_reaches 152 = .ok (.iload 5, 2) := by decide +kernel
theorem dX11_reaches_154 : decode cX11_reaches 154 = .ok (.istore 6, 2) := by decide +kernel
theorem dX11_reaches_156 : decode cX11_reaches 156 = .ok (.iload_n 2, 1) := by decide +kernel
theorem dX11_reaches_157 : decode cX11_reaches 157 = .ok (.ifCond .ne 45, 3) := by decide +kernel
theorem dX11_reaches_160 : decode cX11_reaches 160 = .ok (.iload 5, 2) := by decide +kernel
theorem dX11_reaches_162 : decode cX11_reaches 162 = .ok (.aload_n 0, 1) := by decide +kernel
theorem dX11_reaches_163 : decode cX11_reaches 163 = .ok (.getfield 23, 3) := by decide +kernel
theorem dX11_reaches_166 : decode cX11_reaches 166 = .ok (.iload_n 1, 1) := by decide +kernel
theorem dX11_reaches_167 : decode cX11_reaches 167 = .ok (.iaload, 1) := by decide +kernel
theorem dX11_reaches_168 : decode cX11_reaches 168 = .ok (.if_icmp .ge 13, 3) := by decide +kernel
theorem dX11_reaches_171 : decode cX11_reaches 171 = .ok (.aload_n 0, 1) := by decide +kernel
theorem dX11_reaches_172 : decode cX11_reaches 172 = .ok (.getfield 82, 3) := by decide +kernel
theorem dX11_reaches_175 : decode cX11_reaches 175 = .ok (.iload 5, 2) := by decide +kernel
theorem dX11_reaches_177 : decode cX11_reaches 177 = .ok (.baload, 1) := by decide +kernel
theorem dX11_reaches_178 : decode cX11_reaches 178 = .ok (.ifCond .eq 24, 3) := by decide +kernel
theorem dX11_reaches_181 : decode cX11_reaches 181 = .ok (.iload 6, 2) := by decide +kernel
theorem dX11_reaches_183 : decode cX11_reaches 183 = .ok (.aload_n 0, 1) := by decide +kernel
theorem dX11_reaches_184 : decode cX11_reaches 184 = .ok (.getfield 23, 3) := by decide +kernel
theorem dX11_reaches_187 : decode cX11_reaches 187 = .ok (.iload_n 1, 1) := by decide +kernel
theorem dX11_reaches_188 : decode cX11_reaches 188 = .ok (.iaload, 1) := by decide +kernel
theorem dX11_reaches_189 : decode cX11_reaches 189 = .ok (.if_icmp .ge 17, 3) := by decide +kernel
theorem dX11_reaches_192 : decode cX11_reaches 192 = .ok (.aload_n 0, 1) := by decide +kernel
theorem dX11_reaches_193 : decode cX11_reaches 193 = .ok (.getfield 82, 3) := by decide +kernel
theorem dX11_reaches_196 : decode cX11_reaches 196 = .ok (.iload 6, 2) := by decide +kernel
theorem dX11_reaches_198 : decode cX11_reaches 198 = .ok (.baload, 1) := by decide +kernel
theorem dX11_reaches_199 : decode cX11_reaches 199 = .ok (.ifCond .ne 7, 3) := by decide +kernel
theorem dX11_reaches_202 : decode cX11_reaches 202 = .ok (.iconst 1, 1) := by decide +kernel
theorem dX11_reaches_203 : decode cX11_reaches 203 = .ok (.goto 4, 3) := by decide +kernel
theorem dX11_reaches_206 : decode cX11_reaches 206 = .ok (.iconst 0, 1) := by decide +kernel
theorem dX11_reaches_207 : decode cX11_reaches 207 = .ok (.istore_n 2, 1) := by decide +kernel
theorem dX11_reaches_208 : decode cX11_reaches 208 = .ok (.iload 5, 2) := by decide +kernel
theorem dX11_reaches_210 : decode cX11_reaches 210 = .ok (.aload_n 0, 1) := by decide +kernel
theorem dX11_reaches_211 : decode cX11_reaches 211 = .ok (.getfield 23, 3) := by decide +kernel
theorem dX11_reaches_214 : decode cX11_reaches 214 = .ok (.iload_n 1, 1) := by decide +kernel
theorem dX11_reaches_215 : decode cX11_reaches 215 = .ok (.iaload, 1) := by decide +kernel
theorem dX11_reaches_216 : decode cX11_reaches 216 = .ok (.if_icmp .ge 11, 3) := by decide +kernel
theorem dX11_reaches_219 : decode cX11_reaches 219 = .ok (.aload_n 0, 1) := by decide +kernel
theorem dX11_reaches_220 : decode cX11_reaches 220 = .ok (.getfield 82, 3) := by decide +kernel
theorem dX11_reaches_223 : decode cX11_reaches 223 = .ok (.iload 5, 2) := by decide +kernel
theorem dX11_reaches_225 : decode cX11_reaches 225 = .ok (.iconst 1, 1) := by decide +kernel
theorem dX11_reaches_226 : decode cX11_reaches 226 = .ok (.bastore, 1) := by decide +kernel
theorem dX11_reaches_227 : decode cX11_reaches 227 = .ok (.iload 6, 2) := by decide +kernel
theorem dX11_reaches_229 : decode cX11_reaches 229 = .ok (.aload_n 0, 1) := by decide +kernel
theorem dX11_reaches_230 : decode cX11_reaches 230 = .ok (.getfield 23, 3) := by decide +kernel
theorem dX11_reaches_233 : decode cX11_reaches 233 = .ok (.iload_n 1, 1) := by decide +kernel
theorem dX11_reaches_234 : decode cX11_reaches 234 = .ok (.iaload, 1) := by decide +kernel
theorem dX11_reaches_235 : decode cX11_reaches 235 = .ok (.if_icmp .ge 11, 3) := by decide +kernel
theorem dX11_reaches_238 : decode cX11_reaches 238 = .ok (.aload_n 0, 1) := by decide +kernel
theorem dX11_reaches_239 : decode cX11_reaches 239 = .ok (.getfield 82, 3) := by decide +kernel
theorem dX11_reaches_242 : decode cX11_reaches 242 = .ok (.iload 6, 2) := by decide +kernel
theorem dX11_reaches_244 : decode cX11_reaches 244 = .ok (.iconst 1, 1) := by decide +kernel
theorem dX11_reaches_245 : decode cX11_reaches 245 = .ok (.bastore, 1) := by decide +kernel
theorem dX11_reaches_246 : decode cX11_reaches 246 = .ok (.iinc 3 1, 3) := by decide +kernel
theorem dX11_reaches_249 : decode cX11_reaches 249 = .ok (.goto (-210), 3) := by decide +kernel
theorem dX11_reaches_252 : decode cX11_reaches 252 = .ok (.goto (-221), 3) := by decide +kernel
theorem dX11_reaches_255 : decode cX11_reaches 255 = .ok (.return_, 1) := by decide +kernel
set_option maxRecDepth 20000 in
theorem ggX11_idle_X11_isBook : GoodIn wsX11_idle wsX11_isBook := goodIn_r _ [8, 9, 18, 19, 20, 21, 22, 23, 24, 25, 26, 27, 28, 29, 30, 31, 32, 33, 34, 35, 36, 37, 38, 39, 40, 41, 42, 43, 44, 45, 46, 47, 48, 49, 50, 51, 52, 53, 54, 55, 56, 57, 58, 59, 60, 61, 62, 63, 64, 65, 66, 67, 68, 69, 70, 71, 72, 73, 74, 75, 76, 77, 78, 79, 80, 81, 82, 83, 84, 85] (by decide +kernel) (by decide +kernel)
set_option maxRecDepth 20000 in
theorem gX11_idle_X11_isBook : GoodIn wsX11_idle (wsV RX11 251 RX11 yX11_isBook wsX11_isBook) := goodIn_app (goodIn_of _ (by decide +kernel)) ggX11_idle_X11_isBook
set_option maxRecDepth 20000 in
theorem ggX11_idle_X11_reaches : GoodIn wsX11_idle wsX11_reaches := goodIn_r _ [13, 3, 2, 14, 15, 16, 17, 18, 19, 20, 21, 22, 23, 24, 25, 26, 27, 28, 29, 30, 31, 32, 33, 34, 35, 36, 37, 38, 39, 40, 41, 42, 43, 44, 45, 46, 47, 48, 49, 50, 51, 52, 53, 54, 55, 56, 57, 58, 59, 60, 61, 62, 63, 64, 65, 66, 67, 68, 69, 70, 71, 72, 73, 74, 75, 76, 77, 78, 79, 80, 81, 82, 83, 84, 85] (by decide +kernel) (by decide +kernel)
set_option maxRecDepth 20000 in
theorem gX11_idle_X11_reaches : GoodIn wsX11_idle (wsV RX11 340 RX11 yX11_reaches wsX11_reaches) := goodIn_app (goodIn_of _ (by decide +kernel)) ggX11_idle_X11_reaches
theorem dX11_idle_0 : decode cX11_idle 0 = .ok (.aload_n 0, 1) := by decide +kernel
theorem dX11_idle_1 : decode cX11_idle 1 = .ok (.iconst 0, 1) := by decide +kernel
theorem dX11_idle_2 : decode cX11_idle 2 = .ok (.putfield 117, 3) := by decide +kernel
theorem dX11_idle_5 : decode cX11_idle 5 = .ok (.aload_n 0, 1) := by decide +kernel
theorem dX11_idle_6 : decode cX11_idle 6 = .ok (.iload_n 1, 1) := by decide +kernel
theorem dX11_idle_7 : decode cX11_idle 7 = .ok (.invokevirtual 251, 3) := by decide +kernel
theorem dX11_idle_10 : decode cX11_idle 10 = .ok (.ifCond .ne 5, 3) := by decide +kernel
theorem dX11_idle_13 : decode cX11_idle 13 = .ok (.iconst (-1), 1) := by decide +kernel
theorem dX11_idle_14 : decode cX11_idle 14 = .ok (.ireturn, 1) := by decide +kernel
theorem dX11_idle_15 : decode cX11_idle 15 = .ok (.aload_n 0, 1) := by decide +kernel
theorem dX11_idle_16 : decode cX11_idle 16 = .ok (.iload_n 1, 1) := by decide +kernel
theorem dX11_idle_17 : decode cX11_idle 17 = .ok (.invokevirtual 340, 3) := by decide +kernel
theorem dX11_idle_20 : decode cX11_idle 20 = .ok (.iconst 0, 1) := by decide +kernel
theorem dX11_idle_21 : decode cX11_idle 21 = .ok (.istore_n 2, 1) := by decide +kernel
theorem dX11_idle_22 : decode cX11_idle 22 = .ok (.iconst 0, 1) := by decide +kernel
theorem dX11_idle_23 : decode cX11_idle 23 = .ok (.istore_n 3, 1) := by decide +kernel
theorem dX11_idle_24 : decode cX11_idle 24 = .ok (.iload_n 3, 1) := by decide +kernel
theorem dX11_idle_25 : decode cX11_idle 25 = .ok (.aload_n 0, 1) := by decide +kernel
theorem dX11_idle_26 : decode cX11_idle 26 = .ok (.getfield 23, 3) := by decide +kernel
theorem dX11_idle_29 : decode cX11_idle 29 = .ok (.iload_n 1, 1) := by decide +kernel
theorem dX11_idle_30 : decode cX11_idle 30 = .ok (.iaload, 1) := by decide +kernel
theorem dX11_idle_31 : decode cX11_idle 31 = .ok (.if_icmp .ge 26, 3) := by decide +kernel
theorem dX11_idle_34 : decode cX11_idle 34 = .ok (.iload_n 2, 1) := by decide +kernel
theorem dX11_idle_35 : decode cX11_idle 35 = .ok (.aload_n 0, 1) := by decide +kernel
theorem dX11_idle_36 : decode cX11_idle 36 = .ok (.getfield 82, 3) := by decide +kernel
theorem dX11_idle_39 : decode cX11_idle 39 = .ok (.iload_n 3, 1) := by decide +kernel
theorem dX11_idle_40 : decode cX11_idle 40 = .ok (.baload, 1) := by decide +kernel
theorem dX11_idle_41 : decode cX11_idle 41 = .ok (.ifCond .eq 7, 3) := by decide +kernel
theorem dX11_idle_44 : decode cX11_idle 44 = .ok (.iconst 0, 1) := by decide +kernel
theorem dX11_idle_45 : decode cX11_idle 45 = .ok (.goto 4, 3) := by decide +kernel
theorem dX11_idle_48 : decode cX11_idle 48 = .ok (.iconst 1, 1) := by decide +kernel
theorem dX11_idle_49 : decode cX11_idle 49 = .ok (.iadd, 1) := by decide +kernel
theorem dX11_idle_50 : decode cX11_idle 50 = .ok (.istore_n 2, 1) := by decide +kernel
theorem dX11_idle_51 : decode cX11_idle 51 = .ok (.iinc 3 1, 3) := by decide +kernel
theorem dX11_idle_54 : decode cX11_idle 54 = .ok (.goto (-30), 3) := by decide +kernel
theorem dX11_idle_57 : decode cX11_idle 57 = .ok (.iload_n 2, 1) := by decide +kernel
theorem dX11_idle_58 : decode cX11_idle 58 = .ok (.ireturn, 1) := by decide +kernel
set_option maxRecDepth 20000 in
theorem ggX11_look_X11_isBook : GoodIn wsX11_look wsX11_isBook := goodIn_r _ [10, 11, 24, 25, 26, 27, 28, 29, 30, 31, 32, 33, 34, 35, 36, 37, 38, 39, 40, 41, 42, 43, 44, 45, 46, 47, 48, 49, 50, 51, 52, 53, 54, 55, 56, 57, 58, 59, 60, 61, 62, 63, 64, 65, 66, 67, 68, 69, 70, 71, 72, 73, 74, 75, 76, 77, 78, 79, 80, 81, 82, 83, 84, 85, 86, 87, 88, 89, 90, 91] (by decide +kernel) (by decide +kernel)
set_option maxRecDepth 20000 in
theorem gX11_look_X11_isBook : GoodIn wsX11_look (wsV RX11 251 RX11 yX11_isBook wsX11_isBook) := goodIn_app (goodIn_of _ (by decide +kernel)) ggX11_look_X11_isBook
set_option maxRecDepth 20000 in
theorem ggX11_look_X11_reaches : GoodIn wsX11_look wsX11_reaches := goodIn_r _ [15, 5, 2, 3, 16, 4, 17, 24, 25, 26, 27, 28, 29, 30, 31, 32, 33, 34, 35, 36, 37, 38, 39, 40, 41, 42, 43, 44, 45, 46, 47, 48, 49, 50, 51, 52, 53, 54, 55, 56, 57, 58, 59, 60, 61, 62, 63, 64, 65, 66, 67, 68, 69, 70, 71, 72, 73, 74, 75, 76, 77, 78, 79, 80, 81, 82, 83, 84, 85, 86, 87, 88, 89, 90, 91] (by decide +kernel) (by decide +kernel)
set_option maxRecDepth 20000 in
theorem gX11_look_X11_reaches : GoodIn wsX11_look (wsV RX11 340 RX11 yX11_reaches wsX11_reaches) := goodIn_app (goodIn_of _ (by decide +kernel)) ggX11_look_X11_reaches
set_option maxRecDepth 20000 in
theorem ggX11_look_X11_isThere : GoodIn wsX11_look wsX11_isThere := goodIn_r _ [21, 22, 23, 24, 25, 26, 27, 28, 29, 30, 31, 32, 33, 34, 35, 36, 37, 38, 39, 40, 41, 42, 43, 44, 45, 46, 47, 48, 49, 50, 51, 52, 53, 54, 55, 56, 57, 58, 59, 60, 61, 62, 63, 64, 65, 66, 67, 68, 69, 70, 71, 72, 73, 74, 75, 76, 77, 78, 79, 80, 81, 82, 83, 84, 85, 86, 87, 88, 89, 90, 91] (by decide +kernel) (by decide +kernel)
set_option maxRecDepth 20000 in
theorem gX11_look_X11_isThere : GoodIn wsX11_look (wsV RX11 281 RX11 yX11_isThere wsX11_isThere) := goodIn_app (goodIn_of _ (by decide +kernel)) ggX11_look_X11_isThere
theorem dX11_look_0 : decode cX11_look 0 = .ok (.aload_n 0, 1) := by decide +kernel
theorem dX11_look_1 : decode cX11_look 1 = .ok (.iconst 0, 1) := by decide +kernel
theorem dX11_look_2 : decode cX11_look 2 = .ok (.putfield 117, 3) := by decide +kernel
theorem dX11_look_5 : decode cX11_look 5 = .ok (.aload_n 0, 1) := by decide +kernel
theorem dX11_look_6 : decode cX11_look 6 = .ok (.iload_n 1, 1) := by decide +kernel
theorem dX11_look_7 : decode cX11_look 7 = .ok (.invokevirtual 251, 3) := by decide +kernel
theorem dX11_look_10 : decode cX11_look 10 = .ok (.ifCond .eq 17, 3) := by decide +kernel
theorem dX11_look_13 : decode cX11_look 13 = .ok (.iload_n 2, 1) := by decide +kernel
theorem dX11_look_14 : decode cX11_look 14 = .ok (.ifCond .lt 13, 3) := by decide +kernel
theorem dX11_look_17 : decode cX11_look 17 = .ok (.iload_n 2, 1) := by decide +kernel
theorem dX11_look_18 : decode cX11_look 18 = .ok (.aload_n 0, 1) := by decide +kernel
theorem dX11_look_19 : decode cX11_look 19 = .ok (.getfield 23, 3) := by decide +kernel
theorem dX11_look_22 : decode cX11_look 22 = .ok (.iload_n 1, 1) := by decide +kernel
theorem dX11_look_23 : decode cX11_look 23 = .ok (.iaload, 1) := by decide +kernel
theorem dX11_look_24 : decode cX11_look 24 = .ok (.if_icmp .lt 5, 3) := by decide +kernel
theorem dX11_look_27 : decode cX11_look 27 = .ok (.iconst (-1), 1) := by decide +kernel
theorem dX11_look_28 : decode cX11_look 28 = .ok (.ireturn, 1) := by decide +kernel
theorem dX11_look_29 : decode cX11_look 29 = .ok (.aload_n 0, 1) := by decide +kernel
theorem dX11_look_30 : decode cX11_look 30 = .ok (.iload_n 1, 1) := by decide +kernel
theorem dX11_look_31 : decode cX11_look 31 = .ok (.invokevirtual 340, 3) := by decide +kernel
theorem dX11_look_34 : decode cX11_look 34 = .ok (.bipush 24, 2) := by decide +kernel
theorem dX11_look_36 : decode cX11_look 36 = .ok (.iload_n 1, 1) := by decide +kernel
theorem dX11_look_37 : decode cX11_look 37 = .ok (.imul, 1) := by decide +kernel
theorem dX11_look_38 : decode cX11_look 38 = .ok (.iload_n 2, 1) := by decide +kernel
theorem dX11_look_39 : decode cX11_look 39 = .ok (.iadd, 1) := by decide +kernel
theorem dX11_look_40 : decode cX11_look 40 = .ok (.istore_n 3, 1) := by decide +kernel
theorem dX11_look_41 : decode cX11_look 41 = .ok (.aload_n 0, 1) := by decide +kernel
theorem dX11_look_42 : decode cX11_look 42 = .ok (.getfield 26, 3) := by decide +kernel
theorem dX11_look_45 : decode cX11_look 45 = .ok (.iload_n 3, 1) := by decide +kernel
theorem dX11_look_46 : decode cX11_look 46 = .ok (.iaload, 1) := by decide +kernel
theorem dX11_look_47 : decode cX11_look 47 = .ok (.iconst 1, 1) := by decide +kernel
theorem dX11_look_48 : decode cX11_look 48 = .ok (.if_icmp .gt 17, 3) := by decide +kernel
theorem dX11_look_51 : decode cX11_look 51 = .ok (.aload_n 0, 1) := by decide +kernel
theorem dX11_look_52 : decode cX11_look 52 = .ok (.aload_n 0, 1) := by decide +kernel
theorem dX11_look_53 : decode cX11_look 53 = .ok (.getfield 29, 3) := by decide +kernel
theorem dX11_look_56 : decode cX11_look 56 = .ok (.iload_n 3, 1) := by decide +kernel
theorem dX11_look_57 : decode cX11_look 57 = .ok (.iaload, 1) := by decide +kernel
theorem dX11_look_58 : decode cX11_look 58 = .ok (.iconst 0, 1) := by decide +kernel
theorem dX11_look_59 : decode cX11_look 59 = .ok (.invokevirtual 281, 3) := by decide +kernel
theorem dX11_look_62 : decode cX11_look 62 = .ok (.ifCond .eq 7, 3) := by decide +kernel
theorem dX11_look_65 : decode cX11_look 65 = .ok (.iconst 1, 1) := by decide +kernel
theorem dX11_look_66 : decode cX11_look 66 = .ok (.goto 4, 3) := by decide +kernel
theorem dX11_look_69 : decode cX11_look 69 = .ok (.iconst 0, 1) := by decide +kernel
theorem dX11_look_70 : decode cX11_look 70 = .ok (.istore 4, 2) := by decide +kernel
theorem dX11_look_72 : decode cX11_look 72 = .ok (.aload_n 0, 1) := by decide +kernel
theorem dX11_look_73 : decode cX11_look 73 = .ok (.getfield 82, 3) := by decide +kernel
theorem dX11_look_76 : decode cX11_look 76 = .ok (.iload_n 2, 1) := by decide +kernel
theorem dX11_look_77 : decode cX11_look 77 = .ok (.baload, 1) := by decide +kernel
theorem dX11_look_78 : decode cX11_look 78 = .ok (.ifCond .eq 7, 3) := by decide +kernel
theorem dX11_look_81 : decode cX11_look 81 = .ok (.iconst 1, 1) := by decide +kernel
theorem dX11_look_82 : decode cX11_look 82 = .ok (.goto 4, 3) := by decide +kernel
theorem dX11_look_85 : decode cX11_look 85 = .ok (.iconst 0, 1) := by decide +kernel
theorem dX11_look_86 : decode cX11_look 86 = .ok (.iload 4, 2) := by decide +kernel
theorem dX11_look_88 : decode cX11_look 88 = .ok (.ifCond .eq 7, 3) := by decide +kernel
theorem dX11_look_91 : decode cX11_look 91 = .ok (.iconst 2, 1) := by decide +kernel
theorem dX11_look_92 : decode cX11_look 92 = .ok (.goto 4, 3) := by decide +kernel
theorem dX11_look_95 : decode cX11_look 95 = .ok (.iconst 0, 1) := by decide +kernel
theorem dX11_look_96 : decode cX11_look 96 = .ok (.iadd, 1) := by decide +kernel
theorem dX11_look_97 : decode cX11_look 97 = .ok (.ireturn, 1) := by decide +kernel
set_option maxRecDepth 20000 in
theorem ggX11_cures_X11_playsChoice : GoodIn wsX11_cures wsX11_playsChoice := goodIn_r _ [8, 9, 10, 11, 7, 12, 13, 14, 15, 16, 17, 18, 19, 20, 21, 22, 23, 24, 25, 26, 27, 28, 29, 30, 31, 32, 33, 34, 35, 36, 37, 38, 39, 40, 41, 42, 43, 44, 45, 46, 47, 48, 49, 50, 51, 52, 53, 54, 55, 56, 57, 58, 59, 60, 61, 62, 63, 64, 65, 66, 67, 68, 69, 70, 71, 72, 73, 74, 75, 76, 77, 78, 79, 80, 81, 82, 83, 84, 85, 86, 87, 88, 89, 90, 91, 92, 93, 94, 95, 96, 97, 98, 99, 100, 101, 102, 103, 104, 105, 106, 107, 108, 109, 110, 111, 112, 113, 114, 115, 116, 117, 118, 119] (by decide +kernel) (by decide +kernel)
set_option maxRecDepth 20000 in
theorem gX11_cures_X11_playsChoice : GoodIn wsX11_cures (wsV RX11 337 RX11 yX11_playsChoice wsX11_playsChoice) := goodIn_app (goodIn_of _ (by decide +kernel)) ggX11_cures_X11_playsChoice
theorem dX11_cures_0 : decode cX11_cures 0 = .ok (.iconst 1, 1) := by decide +kernel
theorem dX11_cures_1 : decode cX11_cures 1 = .ok (.istore_n 1, 1) := by decide +kernel
theorem dX11_cures_2 : decode cX11_cures 2 = .ok (.iconst 0, 1) := by decide +kernel
theorem dX11_cures_3 : decode cX11_cures 3 = .ok (.istore_n 2, 1) := by decide +kernel
theorem dX11_cures_4 : decode cX11_cures 4 = .ok (.iload_n 2, 1) := by decide +kernel
theorem dX11_cures_5 : decode cX11_cures 5 = .ok (.aload_n 0, 1) := by decide +kernel
theorem dX11_cures_6 : decode cX11_cures 6 = .ok (.getfield 331, 3) := by decide +kernel
theorem dX11_cures_9 : decode cX11_cures 9 = .ok (.if_icmp .ge 36, 3) := by decide +kernel
theorem dX11_cures_12 : decode cX11_cures 12 = .ok (.iload_n 1, 1) := by decide +kernel
theorem dX11_cures_13 : decode cX11_cures 13 = .ok (.ifCond .eq 32, 3) := by decide +kernel
theorem dX11_cures_16 : decode cX11_cures 16 = .ok (.aload_n 0, 1) := by decide +kernel
theorem dX11_cures_17 : decode cX11_cures 17 = .ok (.aload_n 0, 1) := by decide +kernel
theorem dX11_cures_18 : decode cX11_cures 18 = .ok (.getfield 328, 3) := by decide +kernel
theorem dX11_cures_21 : decode cX11_cures 21 = .ok (.aload_n 0, 1) := by decide +kernel
theorem dX11_cures_22 : decode cX11_cures 22 = .ok (.getfield 73, 3) := by decide +kernel
theorem dX11_cures_25 : decode cX11_cures 25 = .ok (.iload_n 2, 1) := by decide +kernel
theorem dX11_cures_26 : decode cX11_cures 26 = .ok (.iaload, 1) := by decide +kernel
theorem dX11_cures_27 : decode cX11_cures 27 = .ok (.invokevirtual 337, 3) := by decide +kernel
theorem dX11_cures_30 : decode cX11_cures 30 = .ok (.ifCond .ne 7, 3) := by decide +kernel
theorem dX11_cures_33 : decode cX11_cures 33 = .ok (.iconst 1, 1) := by decide +kernel
theorem dX11_cures_34 : decode cX11_cures 34 = .ok (.goto 4, 3) := by decide +kernel
theorem dX11_cures_37 : decode cX11_cures 37 = .ok (.iconst 0, 1) := by decide +kernel
theorem dX11_cures_38 : decode cX11_cures 38 = .ok (.istore_n 1, 1) := by decide +kernel
theorem dX11_cures_39 : decode cX11_cures 39 = .ok (.iinc 2 1, 3) := by decide +kernel
theorem dX11_cures_42 : decode cX11_cures 42 = .ok (.goto (-38), 3) := by decide +kernel
theorem dX11_cures_45 : decode cX11_cures 45 = .ok (.iload_n 1, 1) := by decide +kernel
theorem dX11_cures_46 : decode cX11_cures 46 = .ok (.ireturn, 1) := by decide +kernel
theorem dX11_cured_0 : decode cX11_cured 0 = .ok (.aload_n 0, 1) := by decide +kernel
theorem dX11_cured_1 : decode cX11_cured 1 = .ok (.getfield 344, 3) := by decide +kernel
theorem dX11_cured_4 : decode cX11_cured 4 = .ok (.ifCond .ne 24, 3) := by decide +kernel
theorem dX11_cured_7 : decode cX11_cured 7 = .ok (.aload_n 0, 1) := by decide +kernel
theorem dX11_cured_8 : decode cX11_cured 8 = .ok (.getfield 86, 3) := by decide +kernel
theorem dX11_cured_11 : decode cX11_cured 11 = .ok (.iconst 0, 1) := by decide +kernel
theorem dX11_cured_12 : decode cX11_cured 12 = .ok (.iload_n 1, 1) := by decide +kernel
theorem dX11_cured_13 : decode cX11_cured 13 = .ok (.iastore, 1) := by decide +kernel
theorem dX11_cured_14 : decode cX11_cured 14 = .ok (.aload_n 0, 1) := by decide +kernel
theorem dX11_cured_15 : decode cX11_cured 15 = .ok (.getfield 86, 3) := by decide +kernel
theorem dX11_cured_18 : decode cX11_cured 18 = .ok (.iconst 1, 1) := by decide +kernel
theorem dX11_cured_19 : decode cX11_cured 19 = .ok (.iload_n 2, 1) := by decide +kernel
theorem dX11_cured_20 : decode cX11_cured 20 = .ok (.iastore, 1) := by decide +kernel
theorem dX11_cured_21 : decode cX11_cured 21 = .ok (.aload_n 0, 1) := by decide +kernel
theorem dX11_cured_22 : decode cX11_cured 22 = .ok (.getfield 86, 3) := by decide +kernel
theorem dX11_cured_25 : decode cX11_cured 25 = .ok (.iconst 2, 1) := by decide +kernel
theorem dX11_cured_26 : decode cX11_cured 26 = .ok (.iload_n 3, 1) := by decide +kernel
theorem dX11_cured_27 : decode cX11_cured 27 = .ok (.iastore, 1) := by decide +kernel
theorem dX11_cured_28 : decode cX11_cured 28 = .ok (.aload_n 0, 1) := by decide +kernel
theorem dX11_cured_29 : decode cX11_cured 29 = .ok (.dup, 1) := by decide +kernel
theorem dX11_cured_30 : decode cX11_cured 30 = .ok (.getfield 344, 3) := by decide +kernel
theorem dX11_cured_33 : decode cX11_cured 33 = .ok (.iconst 1, 1) := by decide +kernel
theorem dX11_cured_34 : decode cX11_cured 34 = .ok (.iadd, 1) := by decide +kernel
theorem dX11_cured_35 : decode cX11_cured 35 = .ok (.putfield 344, 3) := by decide +kernel
theorem dX11_cured_38 : decode cX11_cured 38 = .ok (.return_, 1) := by decide +kernel
set_option maxRecDepth 20000 in
theorem ggX11_targets_X11_cures : GoodIn wsX11_targets wsX11_cures := goodIn_r _ [7, 8, 2, 9, 10, 11, 12, 6, 13, 14, 15, 16, 17, 18, 19, 20, 21, 22, 23, 1, 24, 25, 26, 27, 28, 29, 30, 31, 32, 33, 34, 35, 36, 37, 38, 39, 40, 41, 42, 43, 44, 45, 46, 47, 48, 49, 50, 51, 52, 53, 54, 55, 62, 63, 64, 65, 66, 67, 68, 69, 70, 71, 72, 73, 74, 75, 76, 77, 78, 79, 80, 81, 82, 83, 84, 85, 86, 87, 88, 89, 90, 91, 92, 93, 94, 95, 96, 97, 98, 99, 100, 101, 102, 103, 104, 105, 106, 107, 108, 109, 110, 111, 112, 113, 114, 115, 116, 117, 118, 119, 120, 121, 122, 123, 124, 125, 126, 127, 128, 129] (by decide +kernel) (by decide +kernel)
set_option maxRecDepth 20000 in
theorem gX11_targets_X11_cures : GoodIn wsX11_targets (wsV RX11 347 RX11 yX11_cures wsX11_cures) := goodIn_app (goodIn_of _ (by decide +kernel)) ggX11_targets_X11_cures
set_option maxRecDepth 20000 in
theorem ggX11_targets_X11_cured : GoodIn wsX11_targets wsX11_cured := goodIn_r _ [59, 60, 61, 62, 63, 64, 65, 66, 67, 68, 69, 70, 71, 72, 73, 74, 75, 76, 77, 78, 79, 80, 81, 82, 83, 84, 85, 86, 87, 88, 89, 90, 91, 92, 93, 94, 95, 96, 97, 98, 99, 100, 101, 102, 103, 104, 105, 106, 107, 108, 109, 110, 111, 112, 113, 114, 115, 116, 117, 118, 119, 120, 121, 122, 123, 124, 125, 126, 127, 128, 129] (by decide +kernel) (by decide +kernel)
set_option maxRecDepth 20000 in
theorem gX11_targets_X11_cured : GoodIn wsX11_targets (wsV RX11 351 RX11 yX11_cured wsX11_cured) := goodIn_app (goodIn_of _ (by decide +kernel)) ggX11_targets_X11_cured
theorem dX11_targets_0 : decode cX11_targets 0 = .ok (.aload_n 3, 1) := by decide +kernel
theorem dX11_targets_1 : decode cX11_targets 1 = .ok (.iload 4, 2) := by decide +kernel
theorem dX11_targets_3 : decode cX11_targets 3 = .ok (.iaload, 1) := by decide +kernel
theorem dX11_targets_4 : decode cX11_targets 4 = .ok (.istore 5, 2) := by decide +kernel
theorem dX11_targets_6 : decode cX11_targets 6 = .ok (.iconst 0, 1) := by decide +kernel
theorem dX11_targets_7 : decode cX11_targets 7 = .ok (.istore 6, 2) := by decide +kernel
theorem dX11_targets_9 : decode cX11_targets 9 = .ok (.iload 6, 2) := by decide +kernel
theorem dX11_targets_11 : decode cX11_targets 11 = .ok (.aload_n 0, 1) := by decide +kernel
theorem dX11_targets_12 : decode cX11_targets 12 = .ok (.getfield 23, 3) := by decide +kernel
theorem dX11_targets_15 : decode cX11_targets 15 = .ok (.aload_n 0, 1) := by decide +kernel
theorem dX11_targets_16 : decode cX11_targets 16 = .ok (.getfield 328, 3) := by decide +kernel
theorem dX11_targets_19 : decode cX11_targets 19 = .ok (.iaload, 1) := by decide +kernel
theorem dX11_targets_20 : decode cX11_targets 20 = .ok (.if_icmp .ge 40, 3) := by decide +kernel
theorem dX11_targets_23 : decode cX11_targets 23 = .ok (.iload 6, 2) := by decide +kernel
theorem dX11_targets_25 : decode cX11_targets 25 = .ok (.iload 5, 2) := by decide +kernel
theorem dX11_targets_27 : decode cX11_targets 27 = .ok (.if_icmp .ne 6, 3) := by decide +kernel
theorem dX11_targets_30 : decode cX11_targets 30 = .ok (.goto 24, 3) := by decide +kernel
theorem dX11_targets_33 : decode cX11_targets 33 = .ok (.aload_n 3, 1) := by decide +kernel
theorem dX11_targets_34 : decode cX11_targets 34 = .ok (.iload 4, 2) := by decide +kernel
theorem dX11_targets_36 : decode cX11_targets 36 = .ok (.iload 6, 2) := by decide +kernel
theorem dX11_targets_38 : decode cX11_targets 38 = .ok (.iastore, 1) := by decide +kernel
theorem dX11_targets_39 : decode cX11_targets 39 = .ok (.aload_n 0, 1) := by decide +kernel
theorem dX11_targets_40 : decode cX11_targets 40 = .ok (.invokevirtual 347, 3) := by decide +kernel
theorem dX11_targets_43 : decode cX11_targets 43 = .ok (.ifCond .eq 11, 3) := by decide +kernel
theorem dX11_targets_46 : decode cX11_targets 46 = .ok (.aload_n 0, 1) := by decide +kernel
theorem dX11_targets_47 : decode cX11_targets 47 = .ok (.iload_n 1, 1) := by decide +kernel
theorem dX11_targets_48 : decode cX11_targets 48 = .ok (.iload_n 2, 1) := by decide +kernel
theorem dX11_targets_49 : decode cX11_targets 49 = .ok (.iload 6, 2) := by decide +kernel
theorem dX11_targets_51 : decode cX11_targets 51 = .ok (.invokevirtual 351, 3) := by decide +kernel
theorem dX11_targets_54 : decode cX11_targets 54 = .ok (.iinc 6 1, 3) := by decide +kernel
theorem dX11_targets_57 : decode cX11_targets 57 = .ok (.goto (-48), 3) := by decide +kernel
theorem dX11_targets_60 : decode cX11_targets 60 = .ok (.aload_n 3, 1) := by decide +kernel
theorem dX11_targets_61 : decode cX11_targets 61 = .ok (.iload 4, 2) := by decide +kernel
theorem dX11_targets_63 : decode cX11_targets 63 = .ok (.iload 5, 2) := by decide +kernel
theorem dX11_targets_65 : decode cX11_targets 65 = .ok (.iastore, 1) := by decide +kernel
theorem dX11_targets_66 : decode cX11_targets 66 = .ok (.return_, 1) := by decide +kernel
set_option maxRecDepth 20000 in
theorem ggX11_mends_X11_refused : GoodIn wsX11_mends wsX11_refused := goodIn_r _ [19, 20, 21, 83, 84, 85, 86, 87, 88, 89, 90, 91, 92, 93, 94, 95, 96, 97, 98, 99, 100, 101, 102, 103, 104, 105, 106, 107, 108, 109, 110, 111, 112, 113, 114, 115, 116, 117, 118, 119, 120, 121, 122, 123, 124, 125, 126, 127, 128, 129, 130, 131, 132, 133, 134, 135, 136, 137, 138, 139, 140, 141, 142, 143, 144, 145, 146, 147, 148, 149, 150] (by decide +kernel) (by decide +kernel)
set_option maxRecDepth 20000 in
theorem gX11_mends_X11_refused : GoodIn wsX11_mends (wsV RX11 126 RX11 yX11_refused wsX11_refused) := goodIn_app (goodIn_of _ (by decide +kernel)) ggX11_mends_X11_refused
set_option maxRecDepth 20000 in
theorem ggX11_mends_X11_bits : GoodIn wsX11_mends wsX11_bits := goodIn_r _ [24] (by decide +kernel) (by decide +kernel)
set_option maxRecDepth 20000 in
theorem gX11_mends_X11_bits : GoodIn wsX11_mends (va_wsS RX11 317 yX11_bits wsX11_bits) := goodIn_app (goodIn_of _ (by decide +kernel)) ggX11_mends_X11_bits
set_option maxRecDepth 20000 in
theorem ggX11_mends_X11_targets : GoodIn wsX11_mends wsX11_targets := goodIn_r _ [28, 3, 4, 29, 30, 31, 18, 32, 9, 33, 34, 35, 36, 37, 38, 39, 40, 41, 42, 43, 44, 45, 46, 47, 48, 49, 5, 13, 11, 12, 50, 51, 52, 53, 54, 55, 56, 57, 58, 59, 60, 61, 62, 63, 64, 65, 66, 67, 68, 69, 6, 7, 70, 71, 72, 73, 74, 75, 76, 77, 10, 78, 83, 84, 85, 86, 87, 88, 89, 90, 91, 92, 93, 94, 95, 96, 97, 98, 99, 100, 101, 102, 103, 104, 105, 106, 107, 108, 109, 110, 111, 112, 113, 114, 115, 116, 117, 118, 119, 120, 121, 122, 123, 124, 125, 126, 127, 128, 129, 130, 131, 132, 133, 134, 135, 136, 137, 138, 139, 140, 141, 142, 143, 144, 145, 146, 147, 148, 149, 150] (by decide +kernel) (by decide +kernel)
set_option maxRecDepth 20000 in
theorem gX11_mends_X11_targets : GoodIn wsX11_mends (wsV RX11 354 RX11 yX11_targets wsX11_targets) := goodIn_app (goodIn_of _ (by decide +kernel)) ggX11_mends_X11_targets
set_option maxRecDepth 20000 in
theorem ggX11_mends_X11_cures : GoodIn wsX11_mends wsX11_cures := goodIn_r _ [32, 9, 4, 33, 34, 35, 36, 18, 37, 38, 39, 40, 41, 42, 43, 44, 45, 46, 47, 3, 48, 49, 5, 13, 11, 12, 50, 51, 52, 53, 54, 55, 56, 57, 58, 59, 60, 61, 62, 63, 64, 65, 66, 67, 68, 69, 6, 7, 70, 71, 72, 73, 83, 84, 85, 86, 87, 88, 89, 90, 91, 92, 93, 94, 95, 96, 97, 98, 99, 100, 101, 102, 103, 104, 105, 106, 107, 108, 109, 110, 111, 112, 113, 114, 115, 116, 117, 118, 119, 120, 121, 122, 123, 124, 125, 126, 127, 128, 129, 130, 131, 132, 133, 134, 135, 136, 137, 138, 139, 140, 141, 142, 143, 144, 145, 146, 147, 148, 149, 150] (by decide +kernel) (by decide +kernel)
set_option maxRecDepth 20000 in
theorem gX11_mends_X11_cures : GoodIn wsX11_mends (wsV RX11 347 RX11 yX11_cures wsX11_cures) := goodIn_app (goodIn_of _ (by decide +kernel)) ggX11_mends_X11_cures
set_option maxRecDepth 20000 in
theorem ggX11_mends_X11_cured : GoodIn wsX11_mends wsX11_cured := goodIn_r _ [77, 10, 78, 83, 84, 85, 86, 87, 88, 89, 90, 91, 92, 93, 94, 95, 96, 97, 98, 99, 100, 101, 102, 103, 104, 105, 106, 107, 108, 109, 110, 111, 112, 113, 114, 115, 116, 117, 118, 119, 120, 121, 122, 123, 124, 125, 126, 127, 128, 129, 130, 131, 132, 133, 134, 135, 136, 137, 138, 139, 140, 141, 142, 143, 144, 145, 146, 147, 148, 149, 150] (by decide +kernel) (by decide +kernel)
set_option maxRecDepth 20000 in
theorem gX11_mends_X11_cured : GoodIn wsX11_mends (wsV RX11 351 RX11 yX11_cured wsX11_cured) := goodIn_app (goodIn_of _ (by decide +kernel)) ggX11_mends_X11_cured
set_option maxRecDepth 20000 in
theorem ggX11_mends_X11_done : GoodIn wsX11_mends wsX11_done := goodIn_r _ [82, 20, 21, 83, 84, 85, 86, 87, 88, 89, 90, 91, 92, 93, 94, 95, 96, 97, 98, 99, 100, 101, 102, 103, 104, 105, 106, 107, 108, 109, 110, 111, 112, 113, 114, 115, 116, 117, 118, 119, 120, 121, 122, 123, 124, 125, 126, 127, 128, 129, 130, 131, 132, 133, 134, 135, 136, 137, 138, 139, 140, 141, 142, 143, 144, 145, 146, 147, 148, 149, 150] (by decide +kernel) (by decide +kernel)
set_option maxRecDepth 20000 in
theorem gX11_mends_X11_done : GoodIn wsX11_mends (wsV RX11 130 RX11 yX11_done wsX11_done) := goodIn_app (goodIn_of _ (by decide +kernel)) ggX11_mends_X11_done
theorem dX11_mends_0 : decode cX11_mends 0 = .ok (.aload_n 0, 1) := by decide +kernel
theorem dX11_mends_1 : decode cX11_mends 1 = .ok (.iconst 0, 1) := by decide +kernel
theorem dX11_mends_2 : decode cX11_mends 2 = .ok (.putfield 117, 3) := by decide +kernel
theorem dX11_mends_5 : decode cX11_mends 5 = .ok (.aload_n 0, 1) := by decide +kernel
theorem dX11_mends_6 : decode cX11_mends 6 = .ok (.getfield 325, 3) := by decide +kernel
theorem dX11_mends_9 : decode cX11_mends 9 = .ok (.ifCond .ne 9, 3) := by decide +kernel
theorem dX11_mends_12 : decode cX11_mends 12 = .ok (.aload_n 0, 1) := by decide +kernel
theorem dX11_mends_13 : decode cX11_mends 13 = .ok (.iconst 5, 1) := by decide +kernel
theorem dX11_mends_14 : decode cX11_mends 14 = .ok (.invokevirtual 126, 3) := by decide +kernel
theorem dX11_mends_17 : decode cX11_mends 17 = .ok (.ireturn, 1) := by decide +kernel
theorem dX11_mends_18 : decode cX11_mends 18 = .ok (.iconst 0, 1) := by decide +kernel
theorem dX11_mends_19 : decode cX11_mends 19 = .ok (.istore_n 1, 1) := by decide +kernel
theorem dX11_mends_20 : decode cX11_mends 20 = .ok (.iconst 0, 1) := by decide +kernel
theorem dX11_mends_21 : decode cX11_mends 21 = .ok (.istore_n 2, 1) := by decide +kernel
theorem dX11_mends_22 : decode cX11_mends 22 = .ok (.iload_n 2, 1) := by decide +kernel
theorem dX11_mends_23 : decode cX11_mends 23 = .ok (.aload_n 0, 1) := by decide +kernel
theorem dX11_mends_24 : decode cX11_mends 24 = .ok (.getfield 23, 3) := by decide +kernel
theorem dX11_mends_27 : decode cX11_mends 27 = .ok (.aload_n 0, 1) := by decide +kernel
theorem dX11_mends_28 : decode cX11_mends 28 = .ok (.getfield 328, 3) := by decide +kernel
theorem dX11_mends_31 : decode cX11_mends 31 = .ok (.iaload, 1) := by decide +kernel
theorem dX11_mends_32 : decode cX11_mends 32 = .ok (.if_icmp .ge 73, 3) := by decide +kernel
theorem dX11_mends_35 : decode cX11_mends 35 = .ok (.bipush 24, 2) := by decide +kernel
theorem dX11_mends_37 : decode cX11_mends 37 = .ok (.aload_n 0, 1) := by decide +kernel
theorem dX11_mends_38 : decode cX11_mends 38 = .ok (.getfield 328, 3) := by decide +kernel
theorem dX11_mends_41 : decode cX11_mends 41 = .ok (.imul, 1) := by decide +kernel
theorem dX11_mends_42 : decode cX11_mends 42 = .ok (.iload_n 2, 1) := by decide +kernel
theorem dX11_mends_43 : decode cX11_mends 43 = .ok (.iadd, 1) := by decide +kernel
theorem dX11_mends_44 : decode cX11_mends 44 = .ok (.istore_n 3, 1) := by decide +kernel
theorem dX11_mends_45 : decode cX11_mends 45 = .ok (.iload_n 1, 1) := by decide +kernel
theorem dX11_mends_46 : decode cX11_mends 46 = .ok (.aload_n 0, 1) := by decide +kernel
theorem dX11_mends_47 : decode cX11_mends 47 = .ok (.getfield 26, 3) := by decide +kernel
theorem dX11_mends_50 : decode cX11_mends 50 = .ok (.iload_n 3, 1) := by decide +kernel
theorem dX11_mends_51 : decode cX11_mends 51 = .ok (.iaload, 1) := by decide +kernel
theorem dX11_mends_52 : decode cX11_mends 52 = .ok (.iconst 2, 1) := by decide +kernel
theorem dX11_mends_53 : decode cX11_mends 53 = .ok (.if_icmp .ne 19, 3) := by decide +kernel
theorem dX11_mends_56 : decode cX11_mends 56 = .ok (.iconst 2, 1) := by decide +kernel
theorem dX11_mends_57 : decode cX11_mends 57 = .ok (.aload_n 0, 1) := by decide +kernel
theorem dX11_mends_58 : decode cX11_mends 58 = .ok (.getfield 23, 3) := by decide +kernel
theorem dX11_mends_61 : decode cX11_mends 61 = .ok (.aload_n 0, 1) := by decide +kernel
theorem dX11_mends_62 : decode cX11_mends 62 = .ok (.getfield 328, 3) := by decide +kernel
theorem dX11_mends_65 : decode cX11_mends 65 = .ok (.iaload, 1) := by decide +kernel
theorem dX11_mends_66 : decode cX11_mends 66 = .ok (.iconst 1, 1) := by decide +kernel
theorem dX11_mends_67 : decode cX11_mends 67 = .ok (.isub, 1) := by decide +kernel
theorem dX11_mends_68 : decode cX11_mends 68 = .ok (.imul, 1) := by decide +kernel
theorem dX11_mends_69 : decode cX11_mends 69 = .ok (.goto 28, 3) := by decide +kernel
theorem dX11_mends_72 : decode cX11_mends 72 = .ok (.aload_n 0, 1) := by decide +kernel
theorem dX11_mends_73 : decode cX11_mends 73 = .ok (.getfield 26, 3) := by decide +kernel
theorem dX11_mends_76 : decode cX11_mends 76 = .ok (.iload_n 3, 1) := by decide +kernel
theorem dX11_mends_77 : decode cX11_mends 77 = .ok (.iaload, 1) := by decide +kernel
theorem dX11_mends_78 : decode cX11_mends 78 = .ok (.iconst 4, 1) := by decide +kernel
theorem dX11_mends_79 : decode cX11_mends 79 = .ok (.if_icmp .ne 17, 3) := by decide +kernel
theorem dX11_mends_82 : decode cX11_mends 82 = .ok (.aload_n 0, 1) := by decide +kernel
theorem dX11_mends_83 : decode cX11_mends 83 = .ok (.getfield 23, 3) := by decide +kernel
theorem dX11_mends_86 : decode cX11_mends 86 = .ok (.aload_n 0, 1) := by decide +kernel
theorem dX11_mends_87 : decode cX11_mends 87 = .ok (.getfield 328, 3) := by decide +kernel
theorem dX11_mends_90 : decode cX11_mends 90 = .ok (.iaload, 1) := by decide +kernel
theorem dX11_mends_91 : decode cX11_mends 91 = .ok (.iconst 1, 1) := by decide +kernel
theorem dX11_mends_92 : decode cX11_mends 92 = .ok (.isub, 1) := by decide +kernel
theorem dX11_mends_93 : decode cX11_mends 93 = .ok (.goto 4, 3) := by decide +kernel
theorem dX11_mends_96 : decode cX11_mends 96 = .ok (.iconst 0, 1) := by decide +kernel
theorem dX11_mends_97 : decode cX11_mends 97 = .ok (.iadd, 1) := by decide +kernel
theorem dX11_mends_98 : decode cX11_mends 98 = .ok (.istore_n 1, 1) := by decide +kernel
theorem dX11_mends_99 : decode cX11_mends 99 = .ok (.iinc 2 1, 3) := by decide +kernel
theorem dX11_mends_102 : decode cX11_mends 102 = .ok (.goto (-80), 3) := by decide +kernel
theorem dX11_mends_105 : decode cX11_mends 105 = .ok (.iconst 0, 1) := by decide +kernel
theorem dX11_mends_106 : decode cX11_mends 106 = .ok (.istore_n 2, 1) := by decide +kernel
theorem dX11_mends_107 : decode cX11_mends 107 = .ok (.iload_n 2, 1) := by decide +kernel
theorem dX11_mends_108 : decode cX11_mends 108 = .ok (.aload_n 0, 1) := by decide +kernel
theorem dX11_mends_109 : decode cX11_mends 109 = .ok (.getfield 140, 3) := by decide +kernel
theorem dX11_mends_112 : decode cX11_mends 112 = .ok (.if_icmp .ge 24, 3) := by decide +kernel
theorem dX11_mends_115 : decode cX11_mends 115 = .ok (.iload_n 1, 1) := by decide +kernel
theorem dX11_mends_116 : decode cX11_mends 116 = .ok (.bipush 8, 2) := by decide +kernel
theorem dX11_mends_118 : decode cX11_mends 118 = .ok (.aload_n 0, 1) := by decide +kernel
theorem dX11_mends_119 : decode cX11_mends 119 = .ok (.getfield 20, 3) := by decide +kernel
theorem dX11_mends_122 : decode cX11_mends 122 = .ok (.iload_n 2, 1) := by decide +kernel
theorem dX11_mends_123 : decode cX11_mends 123 = .ok (.iaload, 1) := by decide +kernel
theorem dX11_mends_124 : decode cX11_mends 124 = .ok (.invokestatic 317, 3) := by decide +kernel
theorem dX11_mends_127 : decode cX11_mends 127 = .ok (.isub, 1) := by decide +kernel
theorem dX11_mends_128 : decode cX11_mends 128 = .ok (.iadd, 1) := by decide +kernel
theorem dX11_mends_129 : decode cX11_mends 129 = .ok (.istore_n 1, 1) := by decide +kernel
theorem dX11_mends_130 : decode cX11_mends 130 = .ok (.iinc 2 1, 3) := by decide +kernel
theorem dX11_mends_133 : decode cX11_mends 133 = .ok (.goto (-26), 3) := by decide +kernel
theorem dX11_mends_136 : decode cX11_mends 136 = .ok (.aload_n 0, 1) := by decide +kernel
theorem dX11_mends_137 : decode cX11_mends 137 = .ok (.getfield 334, 3) := by decide +kernel
theorem dX11_mends_140 : decode cX11_mends 140 = .ok (.ifCond .le 21, 3) := by decide +kernel
theorem dX11_mends_143 : decode cX11_mends 143 = .ok (.iload_n 1, 1) := by decide +kernel
theorem dX11_mends_144 : decode cX11_mends 144 = .ok (.aload_n 0, 1) := by decide +kernel
theorem dX11_mends_145 : decode cX11_mends 145 = .ok (.getfield 331, 3) := by decide +kernel
theorem dX11_mends_148 : decode cX11_mends 148 = .ok (.imul, 1) := by decide +kernel
theorem dX11_mends_149 : decode cX11_mends 149 = .ok (.sipush 20000, 3) := by decide +kernel
theorem dX11_mends_152 : decode cX11_mends 152 = .ok (.if_icmp .le 9, 3) := by decide +kernel
theorem dX11_mends_155 : decode cX11_mends 155 = .ok (.aload_n 0, 1) := by decide +kernel
theorem dX11_mends_156 : decode cX11_mends 156 = .ok (.iconst 3, 1) := by decide +kernel
theorem dX11_mends_157 : decode cX11_mends 157 = .ok (.invokevirtual 126, 3) := by decide +kernel
theorem dX11_mends_160 : decode cX11_mends 160 = .ok (.ireturn, 1) := by decide +kernel
theorem dX11_mends_161 : decode cX11_mends 161 = .ok (.aload_n 0, 1) := by decide +kernel
theorem dX11_mends_162 : decode cX11_mends 162 = .ok (.iconst 0, 1) := by decide +kernel
theorem dX11_mends_163 : decode cX11_mends 163 = .ok (.putfield 344, 3) := by decide +kernel
theorem dX11_mends_166 : decode cX11_mends 166 = .ok (.iconst 0, 1) := by decide +kernel
theorem dX11_mends_167 : decode cX11_mends 167 = .ok (.istore_n 2, 1) := by decide +kernel
theorem dX11_mends_168 : decode cX11_mends 168 = .ok (.iload_n 2, 1) := by decide +kernel
theorem dX11_mends_169 : decode cX11_mends 169 = .ok (.aload_n 0, 1) := by decide +kernel
theorem dX11_mends_170 : decode cX11_mends 170 = .ok (.getfield 23, 3) := by decide +kernel
theorem dX11_mends_173 : decode cX11_mends 173 = .ok (.aload_n 0, 1) := by decide +kernel
theorem dX11_mends_174 : decode cX11_mends 174 = .ok (.getfield 328, 3) := by decide +kernel
theorem dX11_mends_177 : decode cX11_mends 177 = .ok (.iaload, 1) := by decide +kernel
theorem dX11_mends_178 : decode cX11_mends 178 = .ok (.if_icmp .ge 82, 3) := by decide +kernel
theorem dX11_mends_181 : decode cX11_mends 181 = .ok (.aload_n 0, 1) := by decide +kernel
theorem dX11_mends_182 : decode cX11_mends 182 = .ok (.getfield 334, 3) := by decide +kernel
theorem dX11_mends_185 : decode cX11_mends 185 = .ok (.ifCond .le 75, 3) := by decide +kernel
theorem dX11_mends_188 : decode cX11_mends 188 = .ok (.bipush 24, 2) := by decide +kernel
theorem dX11_mends_190 : decode cX11_mends 190 = .ok (.aload_n 0, 1) := by decide +kernel
theorem dX11_mends_191 : decode cX11_mends 191 = .ok (.getfield 328, 3) := by decide +kernel
theorem dX11_mends_194 : decode cX11_mends 194 = .ok (.imul, 1) := by decide +kernel
theorem dX11_mends_195 : decode cX11_mends 195 = .ok (.iload_n 2, 1) := by decide +kernel
theorem dX11_mends_196 : decode cX11_mends 196 = .ok (.iadd, 1) := by decide +kernel
theorem dX11_mends_197 : decode cX11_mends 197 = .ok (.istore_n 3, 1) := by decide +kernel
theorem dX11_mends_198 : decode cX11_mends 198 = .ok (.aload_n 0, 1) := by decide +kernel
theorem dX11_mends_199 : decode cX11_mends 199 = .ok (.getfield 26, 3) := by decide +kernel
theorem dX11_mends_202 : decode cX11_mends 202 = .ok (.iload_n 3, 1) := by decide +kernel
theorem dX11_mends_203 : decode cX11_mends 203 = .ok (.iaload, 1) := by decide +kernel
theorem dX11_mends_204 : decode cX11_mends 204 = .ok (.iconst 2, 1) := by decide +kernel
theorem dX11_mends_205 : decode cX11_mends 205 = .ok (.if_icmp .ne 28, 3) := by decide +kernel
theorem dX11_mends_208 : decode cX11_mends 208 = .ok (.aload_n 0, 1) := by decide +kernel
theorem dX11_mends_209 : decode cX11_mends 209 = .ok (.iconst 0, 1) := by decide +kernel
theorem dX11_mends_210 : decode cX11_mends 210 = .ok (.iload_n 2, 1) := by decide +kernel
theorem dX11_mends_211 : decode cX11_mends 211 = .ok (.aload_n 0, 1) := by decide +kernel
theorem dX11_mends_212 : decode cX11_mends 212 = .ok (.getfield 32, 3) := by decide +kernel
theorem dX11_mends_215 : decode cX11_mends 215 = .ok (.iload_n 3, 1) := by decide +kernel
theorem dX11_mends_216 : decode cX11_mends 216 = .ok (.invokevirtual 354, 3) := by decide +kernel
theorem dX11_mends_219 : decode cX11_mends 219 = .ok (.aload_n 0, 1) := by decide +kernel
theorem dX11_mends_220 : decode cX11_mends 220 = .ok (.iconst 1, 1) := by decide +kernel
theorem dX11_mends_221 : decode cX11_mends 221 = .ok (.iload_n 2, 1) := by decide +kernel
theorem dX11_mends_222 : decode cX11_mends 222 = .ok (.aload_n 0, 1) := by decide +kernel
theorem dX11_mends_223 : decode cX11_mends 223 = .ok (.getfield 35, 3) := by decide +kernel
theorem dX11_mends_226 : decode cX11_mends 226 = .ok (.iload_n 3, 1) := by decide +kernel
theorem dX11_mends_227 : decode cX11_mends 227 = .ok (.invokevirtual 354, 3) := by decide +kernel
theorem dX11_mends_230 : decode cX11_mends 230 = .ok (.goto 24, 3) := by decide +kernel
theorem dX11_mends_233 : decode cX11_mends 233 = .ok (.aload_n 0, 1) := by decide +kernel
theorem dX11_mends_234 : decode cX11_mends 234 = .ok (.getfield 26, 3) := by decide +kernel
theorem dX11_mends_237 : decode cX11_mends 237 = .ok (.iload_n 3, 1) := by decide +kernel
theorem dX11_mends_238 : decode cX11_mends 238 = .ok (.iaload, 1) := by decide +kernel
theorem dX11_mends_239 : decode cX11_mends 239 = .ok (.iconst 4, 1) := by decide +kernel
theorem dX11_mends_240 : decode cX11_mends 240 = .ok (.if_icmp .ne 14, 3) := by decide +kernel
theorem dX11_mends_243 : decode cX11_mends 243 = .ok (.aload_n 0, 1) := by decide +kernel
theorem dX11_mends_244 : decode cX11_mends 244 = .ok (.iconst 2, 1) := by decide +kernel
theorem dX11_mends_245 : decode cX11_mends 245 = .ok (.iload_n 2, 1) := by decide +kernel
theorem dX11_mends_246 : decode cX11_mends 246 = .ok (.aload_n 0, 1) := by decide +kernel
theorem dX11_mends_247 : decode cX11_mends 247 = .ok (.getfield 29, 3) := by decide +kernel
theorem dX11_mends_250 : decode cX11_mends 250 = .ok (.iload_n 3, 1) := by decide +kernel
theorem dX11_mends_251 : decode cX11_mends 251 = .ok (.invokevirtual 354, 3) := by decide +kernel
theorem dX11_mends_254 : decode cX11_mends 254 = .ok (.iinc 2 1, 3) := by decide +kernel
theorem dX11_mends_257 : decode cX11_mends 257 = .ok (.goto (-89), 3) := by decide +kernel
theorem dX11_mends_260 : decode cX11_mends 260 = .ok (.iconst 0, 1) := by decide +kernel
theorem dX11_mends_261 : decode cX11_mends 261 = .ok (.istore_n 2, 1) := by decide +kernel
theorem dX11_mends_262 : decode cX11_mends 262 = .ok (.iload_n 2, 1) := by decide +kernel
theorem dX11_mends_263 : decode cX11_mends 263 = .ok (.aload_n 0, 1) := by decide +kernel
theorem dX11_mends_264 : decode cX11_mends 264 = .ok (.getfield 140, 3) := by decide +kernel
theorem dX11_mends_267 : decode cX11_mends 267 = .ok (.if_icmp .ge 86, 3) := by decide +kernel
theorem dX11_mends_270 : decode cX11_mends 270 = .ok (.aload_n 0, 1) := by decide +kernel
theorem dX11_mends_271 : decode cX11_mends 271 = .ok (.getfield 334, 3) := by decide +kernel
theorem dX11_mends_274 : decode cX11_mends 274 = .ok (.ifCond .le 79, 3) := by decide +kernel
theorem dX11_mends_277 : decode cX11_mends 277 = .ok (.aload_n 0, 1) := by decide +kernel
theorem dX11_mends_278 : decode cX11_mends 278 = .ok (.getfield 20, 3) := by decide +kernel
theorem dX11_mends_281 : decode cX11_mends 281 = .ok (.iload_n 2, 1) := by decide +kernel
theorem dX11_mends_282 : decode cX11_mends 282 = .ok (.iaload, 1) := by decide +kernel
theorem dX11_mends_283 : decode cX11_mends 283 = .ok (.istore_n 3, 1) := by decide +kernel
theorem dX11_mends_284 : decode cX11_mends 284 = .ok (.iconst 0, 1) := by decide +kernel
theorem dX11_mends_285 : decode cX11_mends 285 = .ok (.istore 4, 2) := by decide +kernel
theorem dX11_mends_287 : decode cX11_mends 287 = .ok (.iload 4, 2) := by decide +kernel
theorem dX11_mends_289 : decode cX11_mends 289 = .ok (.bipush 8, 2) := by decide +kernel
theorem dX11_mends_291 : decode cX11_mends 291 = .ok (.if_icmp .ge 49, 3) := by decide +kernel
theorem dX11_mends_294 : decode cX11_mends 294 = .ok (.iload_n 3, 1) := by decide +kernel
theorem dX11_mends_295 : decode cX11_mends 295 = .ok (.iload 4, 2) := by decide +kernel
theorem dX11_mends_297 : decode cX11_mends 297 = .ok (.ishr, 1) := by decide +kernel
theorem dX11_mends_298 : decode cX11_mends 298 = .ok (.iconst 1, 1) := by decide +kernel
theorem dX11_mends_299 : decode cX11_mends 299 = .ok (.iand, 1) := by decide +kernel
theorem dX11_mends_300 : decode cX11_mends 300 = .ok (.iconst 1, 1) := by decide +kernel
theorem dX11_mends_301 : decode cX11_mends 301 = .ok (.if_icmp .ne 6, 3) := by decide +kernel
theorem dX11_mends_304 : decode cX11_mends 304 = .ok (.goto 30, 3) := by decide +kernel
theorem dX11_mends_307 : decode cX11_mends 307 = .ok (.aload_n 0, 1) := by decide +kernel
theorem dX11_mends_308 : decode cX11_mends 308 = .ok (.getfield 20, 3) := by decide +kernel
theorem dX11_mends_311 : decode cX11_mends 311 = .ok (.iload_n 2, 1) := by decide +kernel
theorem dX11_mends_312 : decode cX11_mends 312 = .ok (.iload_n 3, 1) := by decide +kernel
theorem dX11_mends_313 : decode cX11_mends 313 = .ok (.iconst 1, 1) := by decide +kernel
theorem dX11_mends_314 : decode cX11_mends 314 = .ok (.iload 4, 2) := by decide +kernel
theorem dX11_mends_316 : decode cX11_mends 316 = .ok (.ishl, 1) := by decide +kernel
theorem dX11_mends_317 : decode cX11_mends 317 = .ok (.ior, 1) := by decide +kernel
theorem dX11_mends_318 : decode cX11_mends 318 = .ok (.iastore, 1) := by decide +kernel
theorem dX11_mends_319 : decode cX11_mends 319 = .ok (.aload_n 0, 1) := by decide +kernel
theorem dX11_mends_320 : decode cX11_mends 320 = .ok (.invokevirtual 347, 3) := by decide +kernel
theorem dX11_mends_323 : decode cX11_mends 323 = .ok (.ifCond .eq 11, 3) := by decide +kernel
theorem dX11_mends_326 : decode cX11_mends 326 = .ok (.aload_n 0, 1) := by decide +kernel
theorem dX11_mends_327 : decode cX11_mends 327 = .ok (.iconst 3, 1) := by decide +kernel
theorem dX11_mends_328 : decode cX11_mends 328 = .ok (.iload_n 2, 1) := by decide +kernel
theorem dX11_mends_329 : decode cX11_mends 329 = .ok (.iload 4, 2) := by decide +kernel
theorem dX11_mends_331 : decode cX11_mends 331 = .ok (.invokevirtual 351, 3) := by decide +kernel
theorem dX11_mends_334 : decode cX11_mends 334 = .ok (.iinc 4 1, 3) := by decide +kernel
theorem dX11_mends_337 : decode cX11_mends 337 = .ok (.goto (-50), 3) := by decide +kernel
theorem dX11_mends_340 : decode cX11_mends 340 = .ok (.aload_n 0, 1) := by decide +kernel
theorem dX11_mends_341 : decode cX11_mends 341 = .ok (.getfield 20, 3) := by decide +kernel
theorem dX11_mends_344 : decode cX11_mends 344 = .ok (.iload_n 2, 1) := by decide +kernel
theorem dX11_mends_345 : decode cX11_mends 345 = .ok (.iload_n 3, 1) := by decide +kernel
theorem dX11_mends_346 : decode cX11_mends 346 = .ok (.iastore, 1) := by decide +kernel
theorem dX11_mends_347 : decode cX11_mends 347 = .ok (.iinc 2 1, 3) := by decide +kernel
theorem dX11_mends_350 : decode cX11_mends 350 = .ok (.goto (-88), 3) := by decide +kernel
theorem dX11_mends_353 : decode cX11_mends 353 = .ok (.aload_n 0, 1) := by decide +kernel
theorem dX11_mends_354 : decode cX11_mends 354 = .ok (.aload_n 0, 1) := by decide +kernel
theorem dX11_mends_355 : decode cX11_mends 355 = .ok (.getfield 344, 3) := by decide +kernel
theorem dX11_mends_358 : decode cX11_mends 358 = .ok (.ifCond .le 7, 3) := by decide +kernel
theorem dX11_mends_361 : decode cX11_mends 361 = .ok (.iconst 1, 1) := by decide +kernel
theorem dX11_mends_362 : decode cX11_mends 362 = .ok (.goto 4, 3) := by decide +kernel
theorem dX11_mends_365 : decode cX11_mends 365 = .ok (.iconst 0, 1) := by decide +kernel
theorem dX11_mends_366 : decode cX11_mends 366 = .ok (.putfield 358, 3) := by decide +kernel
theorem dX11_mends_369 : decode cX11_mends 369 = .ok (.aload_n 0, 1) := by decide +kernel
theorem dX11_mends_370 : decode cX11_mends 370 = .ok (.aload_n 0, 1) := by decide +kernel
theorem dX11_mends_371 : decode cX11_mends 371 = .ok (.getfield 344, 3) := by decide +kernel
theorem dX11_mends_374 : decode cX11_mends 374 = .ok (.invokevirtual 130, 3) := by decide +kernel
theorem dX11_mends_377 : decode cX11_mends 377 = .ok (.ireturn, 1) := by decide +kernel
set_option maxRecDepth 20000 in
theorem ggX11_mend_X11_in : GoodIn wsX11_mend wsX11_in := goodIn_r _ [7] (by decide +kernel) (by decide +kernel)
set_option maxRecDepth 20000 in
theorem gX11_mend_X11_in : GoodIn wsX11_mend (va_wsS RX11 136 yX11_in wsX11_in) := goodIn_app (goodIn_of _ (by decide +kernel)) ggX11_mend_X11_in
theorem dX11_mend_0 : decode cX11_mend 0 = .ok (.aload_n 0, 1) := by decide +kernel
theorem dX11_mend_1 : decode cX11_mend 1 = .ok (.iconst 0, 1) := by decide +kernel
theorem dX11_mend_2 : decode cX11_mend 2 = .ok (.putfield 117, 3) := by decide +kernel
theorem dX11_mend_5 : decode cX11_mend 5 = .ok (.aload_n 0, 1) := by decide +kernel
theorem dX11_mend_6 : decode cX11_mend 6 = .ok (.getfield 358, 3) := by decide +kernel
theorem dX11_mend_9 : decode cX11_mend 9 = .ok (.ifCond .eq 21, 3) := by decide +kernel
theorem dX11_mend_12 : decode cX11_mend 12 = .ok (.iload_n 1, 1) := by decide +kernel
theorem dX11_mend_13 : decode cX11_mend 13 = .ok (.iconst 0, 1) := by decide +kernel
theorem dX11_mend_14 : decode cX11_mend 14 = .ok (.iconst 2, 1) := by decide +kernel
theorem dX11_mend_15 : decode cX11_mend 15 = .ok (.invokestatic 136, 3) := by decide +kernel
theorem dX11_mend_18 : decode cX11_mend 18 = .ok (.ifCond .eq 12, 3) := by decide +kernel
theorem dX11_mend_21 : decode cX11_mend 21 = .ok (.aload_n 0, 1) := by decide +kernel
theorem dX11_mend_22 : decode cX11_mend 22 = .ok (.getfield 86, 3) := by decide +kernel
theorem dX11_mend_25 : decode cX11_mend 25 = .ok (.iload_n 1, 1) := by decide +kernel
theorem dX11_mend_26 : decode cX11_mend 26 = .ok (.iaload, 1) := by decide +kernel
theorem dX11_mend_27 : decode cX11_mend 27 = .ok (.goto 4, 3) := by decide +kernel
theorem dX11_mend_30 : decode cX11_mend 30 = .ok (.iconst (-1), 1) := by decide +kernel
theorem dX11_mend_31 : decode cX11_mend 31 = .ok (.ireturn, 1) := by decide +kernel
set_option maxRecDepth 20000 in
theorem ggX11_goesOn_X11_changed : GoodIn wsX11_goesOn wsX11_changed := goodIn_r _ [6, 1, 7, 73, 74, 75, 76, 77, 78, 79, 80, 81, 82, 83, 84, 85, 86, 87, 88, 89, 90, 91, 92, 93, 94, 95, 96, 97, 98, 99, 100, 101, 102, 103, 104, 105, 106, 107, 108, 109, 110, 111, 112, 113, 114, 115, 116, 117, 118, 119, 120, 121, 122, 123, 124, 125, 126, 127, 128, 129, 130, 131, 132, 133, 134, 135, 136, 137, 138, 139, 140] (by decide +kernel) (by decide +kernel)
set_option maxRecDepth 20000 in
theorem gX11_goesOn_X11_changed : GoodIn wsX11_goesOn (wsV RX11 285 RX11 yX11_changed wsX11_changed) := goodIn_app (goodIn_of _ (by decide +kernel)) ggX11_goesOn_X11_changed
set_option maxRecDepth 20000 in
theorem ggX11_goesOn_X9_ends : GoodIn wsX11_goesOn wsX9_ends := goodIn_r _ [12, 13, 14, 62, 63, 64, 65, 66, 67, 68, 69, 70, 71, 72] (by decide +kernel) (by decide +kernel)
set_option maxRecDepth 20000 in
theorem gX11_goesOn_X9_ends : GoodIn wsX11_goesOn (wsV RX11 377 RX9 yX9_ends wsX9_ends) := goodIn_app (goodIn_of _ (by decide +kernel)) ggX11_goesOn_X9_ends
set_option maxRecDepth 20000 in
theorem ggX11_goesOn_X11_comesTo : GoodIn wsX11_goesOn wsX11_comesTo := goodIn_r _ [18, 19, 20, 8, 9, 10, 11, 12, 13, 14, 62, 63, 64, 65, 66, 67, 68, 69, 70, 71, 72, 73, 74, 75, 76, 77, 78, 79, 80, 81, 82, 83, 84, 85, 86, 87, 88, 89, 90, 91, 92, 93, 94, 95, 96, 97, 98, 99, 100, 101, 102, 103, 104, 105, 106, 107, 108, 109, 110, 111, 112, 113, 114, 115, 116, 117, 118, 119, 120, 121, 122, 123, 124, 125, 126, 127, 128, 129, 130, 131, 132, 133, 134, 135, 136, 137, 138, 139, 140] (by decide +kernel) (by decide +kernel)
set_option maxRecDepth 20000 in
theorem gX11_goesOn_X11_comesTo : GoodIn wsX11_goesOn (wsV RX11 384 RX11 yX11_comesTo wsX11_comesTo) := goodIn_app (goodIn_of _ (by decide +kernel)) ggX11_goesOn_X11_comesTo
set_option maxRecDepth 20000 in
theorem ggX11_goesOn_X11_begins : GoodIn wsX11_goesOn wsX11_begins := goodIn_r _ [24, 1, 25, 7, 26, 27, 28, 29, 5, 30, 31, 32, 33, 34, 35, 36, 8, 9, 10, 11, 12, 13, 14, 37, 38, 39, 40, 41, 42, 43, 44, 45, 46, 47, 48, 49, 50, 51, 52, 53, 54, 55, 56, 57, 58, 59, 60, 61, 62, 63, 64, 65, 66, 67, 68, 69, 70, 71, 72, 73, 74, 75, 76, 77, 78, 79, 80, 81, 82, 83, 84, 85, 86, 87, 88, 89, 90, 91, 92, 93, 94, 95, 96, 97, 98, 99, 100, 101, 102, 103, 104, 105, 106, 107, 108, 109, 110, 111, 112, 113, 114, 115, 116, 117, 118, 119, 120, 121, 122, 123, 124, 125, 126, 127, 128, 129, 130, 131, 132, 133, 134, 135, 136, 137, 138, 139, 140] (by decide +kernel) (by decide +kernel)
set_option maxRecDepth 20000 in
theorem gX11_goesOn_X11_begins : GoodIn wsX11_goesOn (wsV RX11 388 RX11 yX11_begins wsX11_begins) := goodIn_app (goodIn_of _ (by decide +kernel)) ggX11_goesOn_X11_begins
theorem dX11_goesOn_0 : decode cX11_goesOn 0 = .ok (.aload_n 1, 1) := by decide +kernel
theorem dX11_goesOn_1 : decode cX11_goesOn 1 = .ok (.getfield 361, 3) := by decide +kernel
theorem dX11_goesOn_4 : decode cX11_goesOn 4 = .ok (.iconst (-1), 1) := by decide +kernel
theorem dX11_goesOn_5 : decode cX11_goesOn 5 = .ok (.if_icmp .ne 18, 3) := by decide +kernel
theorem dX11_goesOn_8 : decode cX11_goesOn 8 = .ok (.aload_n 1, 1) := by decide +kernel
theorem dX11_goesOn_9 : decode cX11_goesOn 9 = .ok (.getfield 362, 3) := by decide +kernel
theorem dX11_goesOn_12 : decode cX11_goesOn 12 = .ok (.ifCond .eq 12, 3) := by decide +kernel
theorem dX11_goesOn_15 : decode cX11_goesOn 15 = .ok (.aload_n 1, 1) := by decide +kernel
theorem dX11_goesOn_16 : decode cX11_goesOn 16 = .ok (.getfield 365, 3) := by decide +kernel
theorem dX11_goesOn_19 : decode cX11_goesOn 19 = .ok (.iload_n 3, 1) := by decide +kernel
theorem dX11_goesOn_20 : decode cX11_goesOn 20 = .ok (.if_icmp .le 4, 3) := by decide +kernel
theorem dX11_goesOn_23 : decode cX11_goesOn 23 = .ok (.return_, 1) := by decide +kernel
theorem dX11_goesOn_24 : decode cX11_goesOn 24 = .ok (.aload_n 1, 1) := by decide +kernel
theorem dX11_goesOn_25 : decode cX11_goesOn 25 = .ok (.getfield 362, 3) := by decide +kernel
theorem dX11_goesOn_28 : decode cX11_goesOn 28 = .ok (.ifCond .eq 69, 3) := by decide +kernel
theorem dX11_goesOn_31 : decode cX11_goesOn 31 = .ok (.bipush 24, 2) := by decide +kernel
theorem dX11_goesOn_33 : decode cX11_goesOn 33 = .ok (.aload_n 1, 1) := by decide +kernel
theorem dX11_goesOn_34 : decode cX11_goesOn 34 = .ok (.getfield 368, 3) := by decide +kernel
theorem dX11_goesOn_37 : decode cX11_goesOn 37 = .ok (.imul, 1) := by decide +kernel
theorem dX11_goesOn_38 : decode cX11_goesOn 38 = .ok (.aload_n 1, 1) := by decide +kernel
theorem dX11_goesOn_39 : decode cX11_goesOn 39 = .ok (.getfield 371, 3) := by decide +kernel
theorem dX11_goesOn_42 : decode cX11_goesOn 42 = .ok (.iadd, 1) := by decide +kernel
theorem dX11_goesOn_43 : decode cX11_goesOn 43 = .ok (.istore 5, 2) := by decide +kernel
theorem dX11_goesOn_45 : decode cX11_goesOn 45 = .ok (.aload_n 0, 1) := by decide +kernel
theorem dX11_goesOn_46 : decode cX11_goesOn 46 = .ok (.getfield 26, 3) := by decide +kernel
theorem dX11_goesOn_49 : decode cX11_goesOn 49 = .ok (.iload 5, 2) := by decide +kernel
theorem dX11_goesOn_51 : decode cX11_goesOn 51 = .ok (.iaload, 1) := by decide +kernel
theorem dX11_goesOn_52 : decode cX11_goesOn 52 = .ok (.iconst 2, 1) := by decide +kernel
theorem dX11_goesOn_53 : decode cX11_goesOn 53 = .ok (.if_icmp .ge 17, 3) := by decide +kernel
theorem dX11_goesOn_56 : decode cX11_goesOn 56 = .ok (.aload_n 1, 1) := by decide +kernel
theorem dX11_goesOn_57 : decode cX11_goesOn 57 = .ok (.aload_n 0, 1) := by decide +kernel
theorem dX11_goesOn_58 : decode cX11_goesOn 58 = .ok (.iload 5, 2) := by decide +kernel
theorem dX11_goesOn_60 : decode cX11_goesOn 60 = .ok (.aload_n 1, 1) := by decide +kernel
theorem dX11_goesOn_61 : decode cX11_goesOn 61 = .ok (.getfield 374, 3) := by decide +kernel
theorem dX11_goesOn_64 : decode cX11_goesOn 64 = .ok (.invokevirtual 285, 3) := by decide +kernel
theorem dX11_goesOn_67 : decode cX11_goesOn 67 = .ok (.putfield 374, 3) := by decide +kernel
theorem dX11_goesOn_70 : decode cX11_goesOn 70 = .ok (.aload_n 1, 1) := by decide +kernel
theorem dX11_goesOn_71 : decode cX11_goesOn 71 = .ok (.iconst 0, 1) := by decide +kernel
theorem dX11_goesOn_72 : decode cX11_goesOn 72 = .ok (.putfield 362, 3) := by decide +kernel
theorem dX11_goesOn_75 : decode cX11_goesOn 75 = .ok (.aload_n 1, 1) := by decide +kernel
theorem dX11_goesOn_76 : decode cX11_goesOn 76 = .ok (.aload_n 1, 1) := by decide +kernel
theorem dX11_goesOn_77 : decode cX11_goesOn 77 = .ok (.getfield 375, 3) := by decide +kernel
theorem dX11_goesOn_80 : decode cX11_goesOn 80 = .ok (.putfield 371, 3) := by decide +kernel
theorem dX11_goesOn_83 : decode cX11_goesOn 83 = .ok (.iload_n 3, 1) := by decide +kernel
theorem dX11_goesOn_84 : decode cX11_goesOn 84 = .ok (.sipush 5000, 3) := by decide +kernel
theorem dX11_goesOn_87 : decode cX11_goesOn 87 = .ok (.if_icmp .le 10, 3) := by decide +kernel
theorem dX11_goesOn_90 : decode cX11_goesOn 90 = .ok (.aload_n 1, 1) := by decide +kernel
theorem dX11_goesOn_91 : decode cX11_goesOn 91 = .ok (.bipush 6, 2) := by decide +kernel
theorem dX11_goesOn_93 : decode cX11_goesOn 93 = .ok (.iload_n 3, 1) := by decide +kernel
theorem dX11_goesOn_94 : decode cX11_goesOn 94 = .ok (.invokevirtual 377, 3) := by decide +kernel
theorem dX11_goesOn_97 : decode cX11_goesOn 97 = .ok (.aload_n 1, 1) := by decide +kernel
theorem dX11_goesOn_98 : decode cX11_goesOn 98 = .ok (.getfield 361, 3) := by decide +kernel
theorem dX11_goesOn_101 : decode cX11_goesOn 101 = .ok (.iconst (-1), 1) := by decide +kernel
theorem dX11_goesOn_102 : decode cX11_goesOn 102 = .ok (.if_icmp .ne 49, 3) := by decide +kernel
theorem dX11_goesOn_105 : decode cX11_goesOn 105 = .ok (.aload_n 1, 1) := by decide +kernel
theorem dX11_goesOn_106 : decode cX11_goesOn 106 = .ok (.getfield 362, 3) := by decide +kernel
theorem dX11_goesOn_109 : decode cX11_goesOn 109 = .ok (.ifCond .ne 42, 3) := by decide +kernel
theorem dX11_goesOn_112 : decode cX11_goesOn 112 = .ok (.aload_n 1, 1) := by decide +kernel
theorem dX11_goesOn_113 : decode cX11_goesOn 113 = .ok (.getfield 381, 3) := by decide +kernel
theorem dX11_goesOn_116 : decode cX11_goesOn 116 = .ok (.ifCond .ne 10, 3) := by decide +kernel
theorem dX11_goesOn_119 : decode cX11_goesOn 119 = .ok (.aload_n 0, 1) := by decide +kernel
theorem dX11_goesOn_120 : decode cX11_goesOn 120 = .ok (.aload_n 1, 1) := by decide +kernel
theorem dX11_goesOn_121 : decode cX11_goesOn 121 = .ok (.aload_n 2, 1) := by decide +kernel
theorem dX11_goesOn_122 : decode cX11_goesOn 122 = .ok (.iload_n 3, 1) := by decide +kernel
theorem dX11_goesOn_123 : decode cX11_goesOn 123 = .ok (.invokevirtual 384, 3) := by decide +kernel
theorem dX11_goesOn_126 : decode cX11_goesOn 126 = .ok (.aload_n 1, 1) := by decide +kernel
theorem dX11_goesOn_127 : decode cX11_goesOn 127 = .ok (.getfield 361, 3) := by decide +kernel
theorem dX11_goesOn_130 : decode cX11_goesOn 130 = .ok (.iconst (-1), 1) := by decide +kernel
theorem dX11_goesOn_131 : decode cX11_goesOn 131 = .ok (.if_icmp .eq 4, 3) := by decide +kernel
theorem dX11_goesOn_134 : decode cX11_goesOn 134 = .ok (.return_, 1) := by decide +kernel
theorem dX11_goesOn_135 : decode cX11_goesOn 135 = .ok (.aload_n 0, 1) := by decide +kernel
theorem dX11_goesOn_136 : decode cX11_goesOn 136 = .ok (.aload_n 1, 1) := by decide +kernel
theorem dX11_goesOn_137 : decode cX11_goesOn 137 = .ok (.iload_n 3, 1) := by decide +kernel
theorem dX11_goesOn_138 : decode cX11_goesOn 138 = .ok (.iload 4, 2) := by decide +kernel
theorem dX11_goesOn_140 : decode cX11_goesOn 140 = .ok (.invokevirtual 388, 3) := by decide +kernel
theorem dX11_goesOn_143 : decode cX11_goesOn 143 = .ok (.aload_n 1, 1) := by decide +kernel
theorem dX11_goesOn_144 : decode cX11_goesOn 144 = .ok (.getfield 381, 3) := by decide +kernel
theorem dX11_goesOn_147 : decode cX11_goesOn 147 = .ok (.ifCond .eq (-50), 3) := by decide +kernel
theorem dX11_goesOn_150 : decode cX11_goesOn 150 = .ok (.return_, 1) := by decide +kernel
theorem dX11_goesOn_151 : decode cX11_goesOn 151 = .ok (.return_, 1) := by decide +kernel
set_option maxRecDepth 20000 in
theorem ggX11_comesTo_X9_ends : GoodIn wsX11_comesTo wsX9_ends := goodIn_r _ [7, 8, 9, 10, 11, 12, 13, 14, 15, 16, 17, 18, 19, 20] (by decide +kernel) (by decide +kernel)
set_option maxRecDepth 20000 in
theorem gX11_comesTo_X9_ends : GoodIn wsX11_comesTo (wsV RX11 377 RX9 yX9_ends wsX9_ends) := goodIn_app (goodIn_of _ (by decide +kernel)) ggX11_comesTo_X9_ends
theorem dX11_comesTo_0 : decode cX11_comesTo 0 = .ok (.aload_n 1, 1) := by decide +kernel
theorem dX11_comesTo_1 : decode cX11_comesTo 1 = .ok (.getfield 371, 3) := by decide +kernel
theorem dX11_comesTo_4 : decode cX11_comesTo 4 = .ok (.aload_n 0, 1) := by decide +kernel
theorem dX11_comesTo_5 : decode cX11_comesTo 5 = .ok (.getfield 23, 3) := by decide +kernel
theorem dX11_comesTo_8 : decode cX11_comesTo 8 = .ok (.aload_n 1, 1) := by decide +kernel
theorem dX11_comesTo_9 : decode cX11_comesTo 9 = .ok (.getfield 368, 3) := by decide +kernel
theorem dX11_comesTo_12 : decode cX11_comesTo 12 = .ok (.iaload, 1) := by decide +kernel
theorem dX11_comesTo_13 : decode cX11_comesTo 13 = .ok (.if_icmp .ne 10, 3) := by decide +kernel
theorem dX11_comesTo_16 : decode cX11_comesTo 16 = .ok (.aload_n 1, 1) := by decide +kernel
theorem dX11_comesTo_17 : decode cX11_comesTo 17 = .ok (.iconst 5, 1) := by decide +kernel
theorem dX11_comesTo_18 : decode cX11_comesTo 18 = .ok (.iload_n 3, 1) := by decide +kernel
theorem dX11_comesTo_19 : decode cX11_comesTo 19 = .ok (.invokevirtual 377, 3) := by decide +kernel
theorem dX11_comesTo_22 : decode cX11_comesTo 22 = .ok (.return_, 1) := by decide +kernel
theorem dX11_comesTo_23 : decode cX11_comesTo 23 = .ok (.aload_n 2, 1) := by decide +kernel
theorem dX11_comesTo_24 : decode cX11_comesTo 24 = .ok (.sipush 256, 3) := by decide +kernel
theorem dX11_comesTo_27 : decode cX11_comesTo 27 = .ok (.aload_n 1, 1) := by decide +kernel
theorem dX11_comesTo_28 : decode cX11_comesTo 28 = .ok (.getfield 371, 3) := by decide +kernel
theorem dX11_comesTo_31 : decode cX11_comesTo 31 = .ok (.imul, 1) := by decide +kernel
theorem dX11_comesTo_32 : decode cX11_comesTo 32 = .ok (.aload_n 1, 1) := by decide +kernel
theorem dX11_comesTo_33 : decode cX11_comesTo 33 = .ok (.getfield 374, 3) := by decide +kernel
theorem dX11_comesTo_36 : decode cX11_comesTo 36 = .ok (.iadd, 1) := by decide +kernel
theorem dX11_comesTo_37 : decode cX11_comesTo 37 = .ok (.iaload, 1) := by decide +kernel
theorem dX11_comesTo_38 : decode cX11_comesTo 38 = .ok (.aload_n 0, 1) := by decide +kernel
theorem dX11_comesTo_39 : decode cX11_comesTo 39 = .ok (.getfield 257, 3) := by decide +kernel
theorem dX11_comesTo_42 : decode cX11_comesTo 42 = .ok (.if_icmp .ne 9, 3) := by decide +kernel
theorem dX11_comesTo_45 : decode cX11_comesTo 45 = .ok (.aload_n 1, 1) := by decide +kernel
theorem dX11_comesTo_46 : decode cX11_comesTo 46 = .ok (.iconst 4, 1) := by decide +kernel
theorem dX11_comesTo_47 : decode cX11_comesTo 47 = .ok (.iload_n 3, 1) := by decide +kernel
theorem dX11_comesTo_48 : decode cX11_comesTo 48 = .ok (.invokevirtual 377, 3) := by decide +kernel
theorem dX11_comesTo_51 : decode cX11_comesTo 51 = .ok (.aload_n 2, 1) := by decide +kernel
theorem dX11_comesTo_52 : decode cX11_comesTo 52 = .ok (.sipush 256, 3) := by decide +kernel
theorem dX11_comesTo_55 : decode cX11_comesTo 55 = .ok (.aload_n 1, 1) := by decide +kernel
theorem dX11_comesTo_56 : decode cX11_comesTo 56 = .ok (.getfield 371, 3) := by decide +kernel
theorem dX11_comesTo_59 : decode cX11_comesTo 59 = .ok (.imul, 1) := by decide +kernel
theorem dX11_comesTo_60 : decode cX11_comesTo 60 = .ok (.aload_n 1, 1) := by decide +kernel
theorem dX11_comesTo_61 : decode cX11_comesTo 61 = .ok (.getfield 374, 3) := by decide +kernel
theorem dX11_comesTo_64 : decode cX11_comesTo 64 = .ok (.iadd, 1) := by decide +kernel
theorem dX11_comesTo_65 : decode cX11_comesTo 65 = .ok (.aload_n 0, 1) := by decide +kernel
theorem dX11_comesTo_66 : decode cX11_comesTo 66 = .ok (.getfield 257, 3) := by decide +kernel
theorem dX11_comesTo_69 : decode cX11_comesTo 69 = .ok (.iastore, 1) := by decide +kernel
theorem dX11_comesTo_70 : decode cX11_comesTo 70 = .ok (.return_, 1) := by decide +kernel
set_option maxRecDepth 20000 in
theorem ggX11_begins_X11_isCalm : GoodIn wsX11_begins wsX11_isCalm := goodIn_r _ [9, 10, 11, 12, 13, 8, 14, 15, 59, 60, 61, 62, 63, 64, 65, 66, 67, 68, 69, 70, 71, 72, 73, 74, 75, 76, 77, 78, 79, 80, 81, 82, 83, 84, 85, 86, 87, 88, 89, 90, 91, 92, 93, 94, 95, 96, 97, 98, 99, 100, 101, 102, 103, 104, 105, 106, 107, 108, 109, 110, 111, 112, 113, 114, 115, 116, 117, 118, 119, 120, 121, 122, 123, 124, 125, 126] (by decide +kernel) (by decide +kernel)
set_option maxRecDepth 20000 in
theorem gX11_begins_X11_isCalm : GoodIn wsX11_begins (wsV RX11 275 RX11 yX11_isCalm wsX11_isCalm) := goodIn_app (goodIn_of _ (by decide +kernel)) ggX11_begins_X11_isCalm
set_option maxRecDepth 20000 in
theorem ggX11_begins_X9_ends : GoodIn wsX11_begins wsX9_ends := goodIn_r _ [20, 21, 22, 48, 49, 50, 51, 52, 53, 54, 55, 56, 57, 58] (by decide +kernel) (by decide +kernel)
set_option maxRecDepth 20000 in
theorem gX11_begins_X9_ends : GoodIn wsX11_begins (wsV RX11 377 RX9 yX9_ends wsX9_ends) := goodIn_app (goodIn_of _ (by decide +kernel)) ggX11_begins_X9_ends
set_option maxRecDepth 20000 in
theorem ggX11_begins_X11_tellsWrong : GoodIn wsX11_begins wsX11_tellsWrong := goodIn_r _ [26, 27, 59, 60, 61, 62, 63, 64, 65, 66, 67, 68, 69, 70, 71, 72, 73, 74, 75, 76, 77, 78, 79, 80, 81, 82, 83, 84, 85, 86, 87, 88, 89, 90, 91, 92, 93, 94, 95, 96, 97, 98, 99, 100, 101, 102, 103, 104, 105, 106, 107, 108, 109, 110, 111, 112, 113, 114, 115, 116, 117, 118, 119, 120, 121, 122, 123, 124, 125, 126] (by decide +kernel) (by decide +kernel)
set_option maxRecDepth 20000 in
theorem gX11_begins_X11_tellsWrong : GoodIn wsX11_begins (wsV RX11 278 RX11 yX11_tellsWrong wsX11_tellsWrong) := goodIn_app (goodIn_of _ (by decide +kernel)) ggX11_begins_X11_tellsWrong
set_option maxRecDepth 20000 in
theorem ggX11_begins_X9_takes : GoodIn wsX11_begins wsX9_takes := goodIn_r _ [31, 32, 33, 34, 35, 48, 49, 50, 51, 52, 53, 54, 55, 56, 57, 58] (by decide +kernel) (by decide +kernel)
set_option maxRecDepth 20000 in
theorem gX11_begins_X9_takes : GoodIn wsX11_begins (wsV RX11 395 RX9 yX9_takes wsX9_takes) := goodIn_app (goodIn_of _ (by decide +kernel)) ggX11_begins_X9_takes
set_option maxRecDepth 20000 in
theorem ggX11_begins_X11_hands : GoodIn wsX11_begins wsX11_hands := goodIn_r _ [39, 2, 40, 41, 42, 43, 4, 44, 45, 46, 8, 47, 16, 17, 18, 19, 20, 21, 22, 28, 29, 30, 31, 32, 33, 34, 35, 59, 60, 61, 62, 63, 64, 65, 66, 67, 68, 69, 70, 71, 72, 73, 74, 75, 76, 77, 78, 79, 80, 81, 82, 83, 84, 85, 86, 87, 88, 89, 90, 91, 92, 93, 94, 95, 96, 97, 98, 99, 100, 101, 102, 103, 104, 105, 106, 107, 108, 109, 110, 111, 112, 113, 114, 115, 116, 117, 118, 119, 120, 121, 122, 123, 124, 125, 126, 48, 49, 50, 51, 52, 53, 54, 55, 56, 57, 58] (by decide +kernel) (by decide +kernel)
set_option maxRecDepth 20000 in
theorem gX11_begins_X11_hands : GoodIn wsX11_begins (wsV RX11 397 RX11 yX11_hands wsX11_hands) := goodIn_app (goodIn_of _ (by decide +kernel)) ggX11_begins_X11_hands
theorem dX11_begins_0 : decode cX11_begins 0 = .ok (.bipush 24, 2) := by decide +kernel
theorem dX11_begins_2 : decode cX11_begins 2 = .ok (.aload_n 1, 1) := by decide +kernel
theorem dX11_begins_3 : decode cX11_begins 3 = .ok (.getfield 368, 3) := by decide +kernel
theorem dX11_begins_6 : decode cX11_begins 6 = .ok (.imul, 1) := by decide +kernel
theorem dX11_begins_7 : decode cX11_begins 7 = .ok (.aload_n 1, 1) := by decide +kernel
theorem dX11_begins_8 : decode cX11_begins 8 = .ok (.getfield 371, 3) := by decide +kernel
theorem dX11_begins_11 : decode cX11_begins 11 = .ok (.iadd, 1) := by decide +kernel
theorem dX11_begins_12 : decode cX11_begins 12 = .ok (.istore 4, 2) := by decide +kernel
theorem dX11_begins_14 : decode cX11_begins 14 = .ok (.aload_n 0, 1) := by decide +kernel
theorem dX11_begins_15 : decode cX11_begins 15 = .ok (.getfield 26, 3) := by decide +kernel
theorem dX11_begins_18 : decode cX11_begins 18 = .ok (.iload 4, 2) := by decide +kernel
theorem dX11_begins_20 : decode cX11_begins 20 = .ok (.iaload, 1) := by decide +kernel
theorem dX11_begins_21 : decode cX11_begins 21 = .ok (.tableswitch 152 2 5 #[55, 103, 124, 31], 31) := by decide +kernel
theorem dX11_begins_52 : decode cX11_begins 52 = .ok (.aload_n 1, 1) := by decide +kernel
theorem dX11_begins_53 : decode cX11_begins 53 = .ok (.aload_n 0, 1) := by decide +kernel
theorem dX11_begins_54 : decode cX11_begins 54 = .ok (.aload_n 1, 1) := by decide +kernel
theorem dX11_begins_55 : decode cX11_begins 55 = .ok (.getfield 374, 3) := by decide +kernel
theorem dX11_begins_58 : decode cX11_begins 58 = .ok (.invokevirtual 275, 3) := by decide +kernel
theorem dX11_begins_61 : decode cX11_begins 61 = .ok (.ifCond .eq 7, 3) := by decide +kernel
theorem dX11_begins_64 : decode cX11_begins 64 = .ok (.iconst 0, 1) := by decide +kernel
theorem dX11_begins_65 : decode cX11_begins 65 = .ok (.goto 4, 3) := by decide +kernel
theorem dX11_begins_68 : decode cX11_begins 68 = .ok (.iconst 1, 1) := by decide +kernel
theorem dX11_begins_69 : decode cX11_begins 69 = .ok (.iload_n 2, 1) := by decide +kernel
theorem dX11_begins_70 : decode cX11_begins 70 = .ok (.invokevirtual 377, 3) := by decide +kernel
theorem dX11_begins_73 : decode cX11_begins 73 = .ok (.goto 109, 3) := by decide +kernel
theorem dX11_begins_76 : decode cX11_begins 76 = .ok (.aload_n 1, 1) := by decide +kernel
theorem dX11_begins_77 : decode cX11_begins 77 = .ok (.iconst 1, 1) := by decide +kernel
theorem dX11_begins_78 : decode cX11_begins 78 = .ok (.aload_n 0, 1) := by decide +kernel
theorem dX11_begins_79 : decode cX11_begins 79 = .ok (.aload_n 0, 1) := by decide +kernel
theorem dX11_begins_80 : decode cX11_begins 80 = .ok (.getfield 29, 3) := by decide +kernel
theorem dX11_begins_83 : decode cX11_begins 83 = .ok (.iload 4, 2) := by decide +kernel
theorem dX11_begins_85 : decode cX11_begins 85 = .ok (.iaload, 1) := by decide +kernel
theorem dX11_begins_86 : decode cX11_begins 86 = .ok (.aload_n 1, 1) := by decide +kernel
theorem dX11_begins_87 : decode cX11_begins 87 = .ok (.getfield 374, 3) := by decide +kernel
theorem dX11_begins_90 : decode cX11_begins 90 = .ok (.aload_n 1, 1) := by decide +kernel
theorem dX11_begins_91 : decode cX11_begins 91 = .ok (.getfield 392, 3) := by decide +kernel
theorem dX11_begins_94 : decode cX11_begins 94 = .ok (.invokevirtual 278, 3) := by decide +kernel
theorem dX11_begins_97 : decode cX11_begins 97 = .ok (.ifCond .eq 13, 3) := by decide +kernel
theorem dX11_begins_100 : decode cX11_begins 100 = .ok (.aload_n 0, 1) := by decide +kernel
theorem dX11_begins_101 : decode cX11_begins 101 = .ok (.getfield 32, 3) := by decide +kernel
theorem dX11_begins_104 : decode cX11_begins 104 = .ok (.iload 4, 2) := by decide +kernel
theorem dX11_begins_106 : decode cX11_begins 106 = .ok (.iaload, 1) := by decide +kernel
theorem dX11_begins_107 : decode cX11_begins 107 = .ok (.goto 10, 3) := by decide +kernel
theorem dX11_begins_110 : decode cX11_begins 110 = .ok (.aload_n 0, 1) := by decide +kernel
theorem dX11_begins_111 : decode cX11_begins 111 = .ok (.getfield 35, 3) := by decide +kernel
theorem dX11_begins_114 : decode cX11_begins 114 = .ok (.iload 4, 2) := by decide +kernel
theorem dX11_begins_116 : decode cX11_begins 116 = .ok (.iaload, 1) := by decide +kernel
theorem dX11_begins_117 : decode cX11_begins 117 = .ok (.iload_n 2, 1) := by decide +kernel
theorem dX11_begins_118 : decode cX11_begins 118 = .ok (.invokevirtual 395, 3) := by decide +kernel
theorem dX11_begins_121 : decode cX11_begins 121 = .ok (.goto 61, 3) := by decide +kernel
theorem dX11_begins_124 : decode cX11_begins 124 = .ok (.aload_n 1, 1) := by decide +kernel
theorem dX11_begins_125 : decode cX11_begins 125 = .ok (.aload_n 0, 1) := by decide +kernel
theorem dX11_begins_126 : decode cX11_begins 126 = .ok (.getfield 29, 3) := by decide +kernel
theorem dX11_begins_129 : decode cX11_begins 129 = .ok (.iload 4, 2) := by decide +kernel
theorem dX11_begins_131 : decode cX11_begins 131 = .ok (.iaload, 1) := by decide +kernel
theorem dX11_begins_132 : decode cX11_begins 132 = .ok (.aload_n 1, 1) := by decide +kernel
theorem dX11_begins_133 : decode cX11_begins 133 = .ok (.getfield 371, 3) := by decide +kernel
theorem dX11_begins_136 : decode cX11_begins 136 = .ok (.iconst 1, 1) := by decide +kernel
theorem dX11_begins_137 : decode cX11_begins 137 = .ok (.iadd, 1) := by decide +kernel
theorem dX11_begins_138 : decode cX11_begins 138 = .ok (.iload_n 2, 1) := by decide +kernel
theorem dX11_begins_139 : decode cX11_begins 139 = .ok (.invokevirtual 395, 3) := by decide +kernel
theorem dX11_begins_142 : decode cX11_begins 142 = .ok (.goto 40, 3) := by decide +kernel
theorem dX11_begins_145 : decode cX11_begins 145 = .ok (.aload_n 1, 1) := by decide +kernel
theorem dX11_begins_146 : decode cX11_begins 146 = .ok (.aload_n 0, 1) := by decide +kernel
theorem dX11_begins_147 : decode cX11_begins 147 = .ok (.getfield 29, 3) := by decide +kernel
theorem dX11_begins_150 : decode cX11_begins 150 = .ok (.iload 4, 2) := by decide +kernel
theorem dX11_begins_152 : decode cX11_begins 152 = .ok (.iaload, 1) := by decide +kernel
theorem dX11_begins_153 : decode cX11_begins 153 = .ok (.putfield 371, 3) := by decide +kernel
theorem dX11_begins_156 : decode cX11_begins 156 = .ok (.iload_n 2, 1) := by decide +kernel
theorem dX11_begins_157 : decode cX11_begins 157 = .ok (.sipush 5000, 3) := by decide +kernel
theorem dX11_begins_160 : decode cX11_begins 160 = .ok (.if_icmp .le 22, 3) := by decide +kernel
theorem dX11_begins_163 : decode cX11_begins 163 = .ok (.aload_n 1, 1) := by decide +kernel
theorem dX11_begins_164 : decode cX11_begins 164 = .ok (.bipush 6, 2) := by decide +kernel
theorem dX11_begins_166 : decode cX11_begins 166 = .ok (.iload_n 2, 1) := by decide +kernel
theorem dX11_begins_167 : decode cX11_begins 167 = .ok (.invokevirtual 377, 3) := by decide +kernel
theorem dX11_begins_170 : decode cX11_begins 170 = .ok (.goto 12, 3) := by decide +kernel
theorem dX11_begins_173 : decode cX11_begins 173 = .ok (.aload_n 0, 1) := by decide +kernel
theorem dX11_begins_174 : decode cX11_begins 174 = .ok (.aload_n 1, 1) := by decide +kernel
theorem dX11_begins_175 : decode cX11_begins 175 = .ok (.iload 4, 2) := by decide +kernel
theorem dX11_begins_177 : decode cX11_begins 177 = .ok (.iload_n 2, 1) := by decide +kernel
theorem dX11_begins_178 : decode cX11_begins 178 = .ok (.iload_n 3, 1) := by decide +kernel
theorem dX11_begins_179 : decode cX11_begins 179 = .ok (.invokevirtual 397, 3) := by decide +kernel
theorem dX11_begins_182 : decode cX11_begins 182 = .ok (.return_, 1) := by decide +kernel
set_option maxRecDepth 20000 in
theorem ggX11_hands_X11_isThere : GoodIn wsX11_hands wsX11_isThere := goodIn_r _ [11, 2, 3, 27, 28, 29, 30, 31, 32, 33, 34, 35, 36, 37, 38, 39, 40, 41, 42, 43, 44, 45, 46, 47, 48, 49, 50, 51, 52, 53, 54, 55, 56, 57, 58, 59, 60, 61, 62, 63, 64, 65, 66, 67, 68, 69, 70, 71, 72, 73, 74, 75, 76, 77, 78, 79, 80, 81, 82, 83, 84, 85, 86, 87, 88, 89, 90, 91, 92, 93, 94] (by decide +kernel) (by decide +kernel)
set_option maxRecDepth 20000 in
theorem gX11_hands_X11_isThere : GoodIn wsX11_hands (wsV RX11 281 RX11 yX11_isThere wsX11_isThere) := goodIn_app (goodIn_of _ (by decide +kernel)) ggX11_hands_X11_isThere
set_option maxRecDepth 20000 in
theorem ggX11_hands_X9_ends : GoodIn wsX11_hands wsX9_ends := goodIn_r _ [16, 17, 18, 95, 96, 97, 98, 99, 100, 101, 102, 103, 104, 105] (by decide +kernel) (by decide +kernel)
set_option maxRecDepth 20000 in
theorem gX11_hands_X9_ends : GoodIn wsX11_hands (wsV RX11 377 RX9 yX9_ends wsX9_ends) := goodIn_app (goodIn_of _ (by decide +kernel)) ggX11_hands_X9_ends
set_option maxRecDepth 20000 in
theorem ggX11_hands_X9_takes : GoodIn wsX11_hands wsX9_takes := goodIn_r _ [22, 23, 24, 25, 26, 95, 96, 97, 98, 99, 100, 101, 102, 103, 104, 105] (by decide +kernel) (by decide +kernel)
set_option maxRecDepth 20000 in
theorem gX11_hands_X9_takes : GoodIn wsX11_hands (wsV RX11 395 RX9 yX9_takes wsX9_takes) := goodIn_app (goodIn_of _ (by decide +kernel)) ggX11_hands_X9_takes
theorem dX11_hands_0 : decode cX11_hands 0 = .ok (.aload_n 0, 1) := by decide +kernel
theorem dX11_hands_1 : decode cX11_hands 1 = .ok (.aload_n 0, 1) := by decide +kernel
theorem dX11_hands_2 : decode cX11_hands 2 = .ok (.getfield 29, 3) := by decide +kernel
theorem dX11_hands_5 : decode cX11_hands 5 = .ok (.iload_n 2, 1) := by decide +kernel
theorem dX11_hands_6 : decode cX11_hands 6 = .ok (.iaload, 1) := by decide +kernel
theorem dX11_hands_7 : decode cX11_hands 7 = .ok (.iload 4, 2) := by decide +kernel
theorem dX11_hands_9 : decode cX11_hands 9 = .ok (.invokevirtual 281, 3) := by decide +kernel
theorem dX11_hands_12 : decode cX11_hands 12 = .ok (.ifCond .ne 10, 3) := by decide +kernel
theorem dX11_hands_15 : decode cX11_hands 15 = .ok (.aload_n 1, 1) := by decide +kernel
theorem dX11_hands_16 : decode cX11_hands 16 = .ok (.iconst 2, 1) := by decide +kernel
theorem dX11_hands_17 : decode cX11_hands 17 = .ok (.iload_n 3, 1) := by decide +kernel
theorem dX11_hands_18 : decode cX11_hands 18 = .ok (.invokevirtual 377, 3) := by decide +kernel
theorem dX11_hands_21 : decode cX11_hands 21 = .ok (.return_, 1) := by decide +kernel
theorem dX11_hands_22 : decode cX11_hands 22 = .ok (.iconst (-1), 1) := by decide +kernel
theorem dX11_hands_23 : decode cX11_hands 23 = .ok (.istore 5, 2) := by decide +kernel
theorem dX11_hands_25 : decode cX11_hands 25 = .ok (.aload_n 0, 1) := by decide +kernel
theorem dX11_hands_26 : decode cX11_hands 26 = .ok (.getfield 140, 3) := by decide +kernel
theorem dX11_hands_29 : decode cX11_hands 29 = .ok (.iconst 1, 1) := by decide +kernel
theorem dX11_hands_30 : decode cX11_hands 30 = .ok (.isub, 1) := by decide +kernel
theorem dX11_hands_31 : decode cX11_hands 31 = .ok (.istore 6, 2) := by decide +kernel
theorem dX11_hands_33 : decode cX11_hands 33 = .ok (.iload 6, 2) := by decide +kernel
theorem dX11_hands_35 : decode cX11_hands 35 = .ok (.ifCond .lt 54, 3) := by decide +kernel
theorem dX11_hands_38 : decode cX11_hands 38 = .ok (.iload 4, 2) := by decide +kernel
theorem dX11_hands_40 : decode cX11_hands 40 = .ok (.iload 6, 2) := by decide +kernel
theorem dX11_hands_42 : decode cX11_hands 42 = .ok (.ishr, 1) := by decide +kernel
theorem dX11_hands_43 : decode cX11_hands 43 = .ok (.iconst 1, 1) := by decide +kernel
theorem dX11_hands_44 : decode cX11_hands 44 = .ok (.iand, 1) := by decide +kernel
theorem dX11_hands_45 : decode cX11_hands 45 = .ok (.ifCond .ne 38, 3) := by decide +kernel
theorem dX11_hands_48 : decode cX11_hands 48 = .ok (.aload_n 0, 1) := by decide +kernel
theorem dX11_hands_49 : decode cX11_hands 49 = .ok (.getfield 20, 3) := by decide +kernel
theorem dX11_hands_52 : decode cX11_hands 52 = .ok (.iload 6, 2) := by decide +kernel
theorem dX11_hands_54 : decode cX11_hands 54 = .ok (.iaload, 1) := by decide +kernel
theorem dX11_hands_55 : decode cX11_hands 55 = .ok (.aload_n 0, 1) := by decide +kernel
theorem dX11_hands_56 : decode cX11_hands 56 = .ok (.getfield 29, 3) := by decide +kernel
theorem dX11_hands_59 : decode cX11_hands 59 = .ok (.iload_n 2, 1) := by decide +kernel
theorem dX11_hands_60 : decode cX11_hands 60 = .ok (.iaload, 1) := by decide +kernel
theorem dX11_hands_61 : decode cX11_hands 61 = .ok (.ishr, 1) := by decide +kernel
theorem dX11_hands_62 : decode cX11_hands 62 = .ok (.iconst 1, 1) := by decide +kernel
theorem dX11_hands_63 : decode cX11_hands 63 = .ok (.iand, 1) := by decide +kernel
theorem dX11_hands_64 : decode cX11_hands 64 = .ok (.iconst 1, 1) := by decide +kernel
theorem dX11_hands_65 : decode cX11_hands 65 = .ok (.if_icmp .ne 18, 3) := by decide +kernel
theorem dX11_hands_68 : decode cX11_hands 68 = .ok (.aload_n 0, 1) := by decide +kernel
theorem dX11_hands_69 : decode cX11_hands 69 = .ok (.getfield 99, 3) := by decide +kernel
theorem dX11_hands_72 : decode cX11_hands 72 = .ok (.iload 6, 2) := by decide +kernel
theorem dX11_hands_74 : decode cX11_hands 74 = .ok (.iaload, 1) := by decide +kernel
theorem dX11_hands_75 : decode cX11_hands 75 = .ok (.iload_n 3, 1) := by decide +kernel
theorem dX11_hands_76 : decode cX11_hands 76 = .ok (.if_icmp .gt 7, 3) := by decide +kernel
theorem dX11_hands_79 : decode cX11_hands 79 = .ok (.iload 6, 2) := by decide +kernel
theorem dX11_hands_81 : decode cX11_hands 81 = .ok (.istore 5, 2) := by decide +kernel
theorem dX11_hands_83 : decode cX11_hands 83 = .ok (.iinc 6 (-1), 3) := by decide +kernel
theorem dX11_hands_86 : decode cX11_hands 86 = .ok (.goto (-53), 3) := by decide +kernel
theorem dX11_hands_89 : decode cX11_hands 89 = .ok (.iload 5, 2) := by decide +kernel
theorem dX11_hands_91 : decode cX11_hands 91 = .ok (.iconst (-1), 1) := by decide +kernel
theorem dX11_hands_92 : decode cX11_hands 92 = .ok (.if_icmp .ne 21, 3) := by decide +kernel
theorem dX11_hands_95 : decode cX11_hands 95 = .ok (.aload_n 1, 1) := by decide +kernel
theorem dX11_hands_96 : decode cX11_hands 96 = .ok (.iconst 1, 1) := by decide +kernel
theorem dX11_hands_97 : decode cX11_hands 97 = .ok (.putfield 381, 3) := by decide +kernel
theorem dX11_hands_100 : decode cX11_hands 100 = .ok (.aload_n 1, 1) := by decide +kernel
theorem dX11_hands_101 : decode cX11_hands 101 = .ok (.dup, 1) := by decide +kernel
theorem dX11_hands_102 : decode cX11_hands 102 = .ok (.getfield 401, 3) := by decide +kernel
theorem dX11_hands_105 : decode cX11_hands 105 = .ok (.iconst 1, 1) := by decide +kernel
theorem dX11_hands_106 : decode cX11_hands 106 = .ok (.iadd, 1) := by decide +kernel
theorem dX11_hands_107 : decode cX11_hands 107 = .ok (.putfield 401, 3) := by decide +kernel
theorem dX11_hands_110 : decode cX11_hands 110 = .ok (.goto 70, 3) := by decide +kernel
theorem dX11_hands_113 : decode cX11_hands 113 = .ok (.aload_n 0, 1) := by decide +kernel
theorem dX11_hands_114 : decode cX11_hands 114 = .ok (.getfield 38, 3) := by decide +kernel
theorem dX11_hands_117 : decode cX11_hands 117 = .ok (.iload_n 2, 1) := by decide +kernel
theorem dX11_hands_118 : decode cX11_hands 118 = .ok (.iaload, 1) := by decide +kernel
theorem dX11_hands_119 : decode cX11_hands 119 = .ok (.iconst (-1), 1) := by decide +kernel
theorem dX11_hands_120 : decode cX11_hands 120 = .ok (.if_icmp .eq 28, 3) := by decide +kernel
theorem dX11_hands_123 : decode cX11_hands 123 = .ok (.aload_n 1, 1) := by decide +kernel
theorem dX11_hands_124 : decode cX11_hands 124 = .ok (.getfield 374, 3) := by decide +kernel
theorem dX11_hands_127 : decode cX11_hands 127 = .ok (.aload_n 0, 1) := by decide +kernel
theorem dX11_hands_128 : decode cX11_hands 128 = .ok (.getfield 38, 3) := by decide +kernel
theorem dX11_hands_131 : decode cX11_hands 131 = .ok (.iload_n 2, 1) := by decide +kernel
theorem dX11_hands_132 : decode cX11_hands 132 = .ok (.iaload, 1) := by decide +kernel
theorem dX11_hands_133 : decode cX11_hands 133 = .ok (.ishr, 1) := by decide +kernel
theorem dX11_hands_134 : decode cX11_hands 134 = .ok (.iconst 1, 1) := by decide +kernel
theorem dX11_hands_135 : decode cX11_hands 135 = .ok (.iand, 1) := by decide +kernel
theorem dX11_hands_136 : decode cX11_hands 136 = .ok (.ifCond .ne 12, 3) := by decide +kernel
theorem dX11_hands_139 : decode cX11_hands 139 = .ok (.aload_n 1, 1) := by decide +kernel
theorem dX11_hands_140 : decode cX11_hands 140 = .ok (.iconst 3, 1) := by decide +kernel
theorem dX11_hands_141 : decode cX11_hands 141 = .ok (.iload_n 3, 1) := by decide +kernel
theorem dX11_hands_142 : decode cX11_hands 142 = .ok (.invokevirtual 377, 3) := by decide +kernel
theorem dX11_hands_145 : decode cX11_hands 145 = .ok (.goto 35, 3) := by decide +kernel
theorem dX11_hands_148 : decode cX11_hands 148 = .ok (.aload_n 0, 1) := by decide +kernel
theorem dX11_hands_149 : decode cX11_hands 149 = .ok (.getfield 99, 3) := by decide +kernel
theorem dX11_hands_152 : decode cX11_hands 152 = .ok (.iload 5, 2) := by decide +kernel
theorem dX11_hands_154 : decode cX11_hands 154 = .ok (.iload_n 3, 1) := by decide +kernel
theorem dX11_hands_155 : decode cX11_hands 155 = .ok (.aload_n 0, 1) := by decide +kernel
theorem dX11_hands_156 : decode cX11_hands 156 = .ok (.getfield 35, 3) := by decide +kernel
theorem dX11_hands_159 : decode cX11_hands 159 = .ok (.iload_n 2, 1) := by decide +kernel
theorem dX11_hands_160 : decode cX11_hands 160 = .ok (.iaload, 1) := by decide +kernel
theorem dX11_hands_161 : decode cX11_hands 161 = .ok (.iadd, 1) := by decide +kernel
theorem dX11_hands_162 : decode cX11_hands 162 = .ok (.iastore, 1) := by decide +kernel
theorem dX11_hands_163 : decode cX11_hands 163 = .ok (.aload_n 1, 1) := by decide +kernel
theorem dX11_hands_164 : decode cX11_hands 164 = .ok (.aload_n 0, 1) := by decide +kernel
theorem dX11_hands_165 : decode cX11_hands 165 = .ok (.getfield 35, 3) := by decide +kernel
theorem dX11_hands_168 : decode cX11_hands 168 = .ok (.iload_n 2, 1) := by decide +kernel
theorem dX11_hands_169 : decode cX11_hands 169 = .ok (.iaload, 1) := by decide +kernel
theorem dX11_hands_170 : decode cX11_hands 170 = .ok (.aload_n 1, 1) := by decide +kernel
theorem dX11_hands_171 : decode cX11_hands 171 = .ok (.getfield 371, 3) := by decide +kernel
theorem dX11_hands_174 : decode cX11_hands 174 = .ok (.iconst 1, 1) := by decide +kernel
theorem dX11_hands_175 : decode cX11_hands 175 = .ok (.iadd, 1) := by decide +kernel
theorem dX11_hands_176 : decode cX11_hands 176 = .ok (.iload_n 3, 1) := by decide +kernel
theorem dX11_hands_177 : decode cX11_hands 177 = .ok (.invokevirtual 395, 3) := by decide +kernel
theorem dX11_hands_180 : decode cX11_hands 180 = .ok (.return_, 1) := by decide +kernel
set_option maxRecDepth 20000 in
theorem ggX11_nights_X11_isBook : GoodIn wsX11_nights wsX11_isBook := goodIn_r _ [17, 18, 106, 107, 108, 109, 110, 111, 112, 113, 114, 115, 116, 117, 118, 119, 120, 121, 122, 123, 124, 125, 126, 127, 128, 129, 130, 131, 132, 133, 134, 135, 136, 137, 138, 139, 140, 141, 142, 143, 144, 145, 146, 147, 148, 149, 150, 151, 152, 153, 154, 155, 156, 157, 158, 159, 160, 161, 162, 163, 164, 165, 166, 167, 168, 169, 170, 171, 172, 173] (by decide +kernel) (by decide +kernel)
set_option maxRecDepth 20000 in
theorem gX11_nights_X11_isBook : GoodIn wsX11_nights (wsV RX11 251 RX11 yX11_isBook wsX11_isBook) := goodIn_app (goodIn_of _ (by decide +kernel)) ggX11_nights_X11_isBook
set_option maxRecDepth 20000 in
theorem ggX11_nights_X11_refused : GoodIn wsX11_nights wsX11_refused := goodIn_r _ [22, 23, 24, 106, 107, 108, 109, 110, 111, 112, 113, 114, 115, 116, 117, 118, 119, 120, 121, 122, 123, 124, 125, 126, 127, 128, 129, 130, 131, 132, 133, 134, 135, 136, 137, 138, 139, 140, 141, 142, 143, 144, 145, 146, 147, 148, 149, 150, 151, 152, 153, 154, 155, 156, 157, 158, 159, 160, 161, 162, 163, 164, 165, 166, 167, 168, 169, 170, 171, 172, 173] (by decide +kernel) (by decide +kernel)
set_option maxRecDepth 20000 in
theorem gX11_nights_X11_refused : GoodIn wsX11_nights (wsV RX11 126 RX11 yX11_refused wsX11_refused) := goodIn_app (goodIn_of _ (by decide +kernel)) ggX11_nights_X11_refused
set_option maxRecDepth 20000 in
theorem ggX11_nights_X11_areBits : GoodIn wsX11_nights wsX11_areBits := goodIn_r _ [27, 28, 29, 16, 30] (by decide +kernel) (by decide +kernel)
set_option maxRecDepth 20000 in
theorem gX11_nights_X11_areBits : GoodIn wsX11_nights (va_wsS RX11 288 yX11_areBits wsX11_areBits) := goodIn_app (goodIn_of _ (by decide +kernel)) ggX11_nights_X11_areBits
set_option maxRecDepth 20000 in
theorem ggX11_nights_X11_allFacts : GoodIn wsX11_nights wsX11_allFacts := goodIn_r _ [34, 35, 106, 107, 108, 109, 110, 111, 112, 113, 114, 115, 116, 117, 118, 119, 120, 121, 122, 123, 124, 125, 126, 127, 128, 129, 130, 131, 132, 133, 134, 135, 136, 137, 138, 139, 140, 141, 142, 143, 144, 145, 146, 147, 148, 149, 150, 151, 152, 153, 154, 155, 156, 157, 158, 159, 160, 161, 162, 163, 164, 165, 166, 167, 168, 169, 170, 171, 172, 173] (by decide +kernel) (by decide +kernel)
set_option maxRecDepth 20000 in
theorem gX11_nights_X11_allFacts : GoodIn wsX11_nights (wsV RX11 254 RX11 yX11_allFacts wsX11_allFacts) := goodIn_app (goodIn_of _ (by decide +kernel)) ggX11_nights_X11_allFacts
set_option maxRecDepth 20000 in
theorem ggX11_nights_X9_begin : GoodIn wsX11_nights wsX9_begin := goodIn_r _ [40, 41, 42, 43, 44, 45, 46, 47, 48, 49, 174, 175, 176, 177, 178, 179, 180, 181, 182, 183, 184] (by decide +kernel) (by decide +kernel)
set_option maxRecDepth 20000 in
theorem gX11_nights_X9_begin : GoodIn wsX11_nights (wsV RX11 404 RX9 yX9_begin wsX9_begin) := goodIn_app (goodIn_of _ (by decide +kernel)) ggX11_nights_X9_begin
set_option maxRecDepth 20000 in
theorem ggX11_nights_X11_goesOn : GoodIn wsX11_nights wsX11_goesOn := goodIn_r _ [53, 54, 55, 56, 57, 16, 58, 59, 60, 61, 62, 39, 63, 45, 46, 64, 65, 66, 67, 68, 2, 69, 70, 71, 72, 73, 74, 75, 76, 77, 78, 79, 31, 32, 33, 34, 35, 80, 81, 82, 83, 84, 85, 86, 87, 88, 48, 49, 89, 90, 91, 92, 93, 94, 95, 96, 3, 97, 98, 99, 100, 101, 174, 175, 176, 177, 178, 179, 180, 181, 182, 183, 184, 106, 107, 108, 109, 110, 111, 112, 113, 114, 115, 116, 117, 118, 119, 120, 121, 122, 123, 124, 125, 126, 127, 128, 129, 130, 131, 132, 133, 134, 135, 136, 137, 138, 139, 140, 141, 142, 143, 144, 145, 146, 147, 148, 149, 150, 151, 152, 153, 154, 155, 156, 157, 158, 159, 160, 161, 162, 163, 164, 165, 166, 167, 168, 169, 170, 171, 172, 173] (by decide +kernel) (by decide +kernel)
set_option maxRecDepth 20000 in
theorem gX11_nights_X11_goesOn : GoodIn wsX11_nights (wsV RX11 407 RX11 yX11_goesOn wsX11_goesOn) := goodIn_app (goodIn_of _ (by decide +kernel)) ggX11_nights_X11_goesOn
set_option maxRecDepth 20000 in
theorem ggX11_nights_X11_done : GoodIn wsX11_nights wsX11_done := goodIn_r _ [105, 23, 24, 106, 107, 108, 109, 110, 111, 112, 113, 114, 115, 116, 117, 118, 119, 120, 121, 122, 123, 124, 125, 126, 127, 128, 129, 130, 131, 132, 133, 134, 135, 136, 137, 138, 139, 140, 141, 142, 143, 144, 145, 146, 147, 148, 149, 150, 151, 152, 153, 154, 155, 156, 157, 158, 159, 160, 161, 162, 163, 164, 165, 166, 167, 168, 169, 170, 171, 172, 173] (by decide +kernel) (by decide +kernel)
set_option maxRecDepth 20000 in
theorem gX11_nights_X11_done : GoodIn wsX11_nights (wsV RX11 130 RX11 yX11_done wsX11_done) := goodIn_app (goodIn_of _ (by decide +kernel)) ggX11_nights_X11_done
theorem dX11_nights_0 : decode cX11_nights 0 = .ok (.aload_n 0, 1) := by decide +kernel
theorem dX11_nights_1 : decode cX11_nights 1 = .ok (.iconst 0, 1) := by decide +kernel
theorem dX11_nights_2 : decode cX11_nights 2 = .ok (.putfield 117, 3) := by decide +kernel
theorem dX11_nights_5 : decode cX11_nights 5 = .ok (.aload_n 0, 1) := by decide +kernel
theorem dX11_nights_6 : decode cX11_nights 6 = .ok (.iload_n 1, 1) := by decide +kernel
theorem dX11_nights_7 : decode cX11_nights 7 = .ok (.invokevirtual 251, 3) := by decide +kernel
theorem dX11_nights_10 : decode cX11_nights 10 = .ok (.ifCond .eq 12, 3) := by decide +kernel
theorem dX11_nights_13 : decode cX11_nights 13 = .ok (.aload_n 0, 1) := by decide +kernel
theorem dX11_nights_14 : decode cX11_nights 14 = .ok (.iload 4, 2) := by decide +kernel
theorem dX11_nights_16 : decode cX11_nights 16 = .ok (.invokevirtual 251, 3) := by decide +kernel
theorem dX11_nights_19 : decode cX11_nights 19 = .ok (.ifCond .ne 9, 3) := by decide +kernel
theorem dX11_nights_22 : decode cX11_nights 22 = .ok (.aload_n 0, 1) := by decide +kernel
theorem dX11_nights_23 : decode cX11_nights 23 = .ok (.iconst 1, 1) := by decide +kernel
theorem dX11_nights_24 : decode cX11_nights 24 = .ok (.invokevirtual 126, 3) := by decide +kernel
theorem dX11_nights_27 : decode cX11_nights 27 = .ok (.ireturn, 1) := by decide +kernel
theorem dX11_nights_28 : decode cX11_nights 28 = .ok (.iload_n 2, 1) := by decide +kernel
theorem dX11_nights_29 : decode cX11_nights 29 = .ok (.iload_n 3, 1) := by decide +kernel
theorem dX11_nights_30 : decode cX11_nights 30 = .ok (.iload 7, 2) := by decide +kernel
theorem dX11_nights_32 : decode cX11_nights 32 = .ok (.invokestatic 288, 3) := by decide +kernel
theorem dX11_nights_35 : decode cX11_nights 35 = .ok (.ifCond .eq 14, 3) := by decide +kernel
theorem dX11_nights_38 : decode cX11_nights 38 = .ok (.iload 5, 2) := by decide +kernel
theorem dX11_nights_40 : decode cX11_nights 40 = .ok (.iload 6, 2) := by decide +kernel
theorem dX11_nights_42 : decode cX11_nights 42 = .ok (.iconst 0, 1) := by decide +kernel
theorem dX11_nights_43 : decode cX11_nights 43 = .ok (.invokestatic 288, 3) := by decide +kernel
theorem dX11_nights_46 : decode cX11_nights 46 = .ok (.ifCond .ne 9, 3) := by decide +kernel
theorem dX11_nights_49 : decode cX11_nights 49 = .ok (.aload_n 0, 1) := by decide +kernel
theorem dX11_nights_50 : decode cX11_nights 50 = .ok (.iconst 2, 1) := by decide +kernel
theorem dX11_nights_51 : decode cX11_nights 51 = .ok (.invokevirtual 126, 3) := by decide +kernel
theorem dX11_nights_54 : decode cX11_nights 54 = .ok (.ireturn, 1) := by decide +kernel
theorem dX11_nights_55 : decode cX11_nights 55 = .ok (.aload_n 0, 1) := by decide +kernel
theorem dX11_nights_56 : decode cX11_nights 56 = .ok (.dup, 1) := by decide +kernel
theorem dX11_nights_57 : decode cX11_nights 57 = .ok (.getfield 257, 3) := by decide +kernel
theorem dX11_nights_60 : decode cX11_nights 60 = .ok (.iconst 1, 1) := by decide +kernel
theorem dX11_nights_61 : decode cX11_nights 61 = .ok (.iadd, 1) := by decide +kernel
theorem dX11_nights_62 : decode cX11_nights 62 = .ok (.putfield 257, 3) := by decide +kernel
theorem dX11_nights_65 : decode cX11_nights 65 = .ok (.iconst 0, 1) := by decide +kernel
theorem dX11_nights_66 : decode cX11_nights 66 = .ok (.istore 8, 2) := by decide +kernel
theorem dX11_nights_68 : decode cX11_nights 68 = .ok (.iload 8, 2) := by decide +kernel
theorem dX11_nights_70 : decode cX11_nights 70 = .ok (.iconst 4, 1) := by decide +kernel
theorem dX11_nights_71 : decode cX11_nights 71 = .ok (.if_icmp .ge 17, 3) := by decide +kernel
theorem dX11_nights_74 : decode cX11_nights 74 = .ok (.aload_n 0, 1) := by decide +kernel
theorem dX11_nights_75 : decode cX11_nights 75 = .ok (.getfield 99, 3) := by decide +kernel
theorem dX11_nights_78 : decode cX11_nights 78 = .ok (.iload 8, 2) := by decide +kernel
theorem dX11_nights_80 : decode cX11_nights 80 = .ok (.iconst 0, 1) := by decide +kernel
theorem dX11_nights_81 : decode cX11_nights 81 = .ok (.iastore, 1) := by decide +kernel
theorem dX11_nights_82 : decode cX11_nights 82 = .ok (.iinc 8 1, 3) := by decide +kernel
theorem dX11_nights_85 : decode cX11_nights 85 = .ok (.goto (-17), 3) := by decide +kernel
theorem dX11_nights_88 : decode cX11_nights 88 = .ok (.aload_n 0, 1) := by decide +kernel
theorem dX11_nights_89 : decode cX11_nights 89 = .ok (.getfield 92, 3) := by decide +kernel
theorem dX11_nights_92 : decode cX11_nights 92 = .ok (.iload_n 1, 1) := by decide +kernel
theorem dX11_nights_93 : decode cX11_nights 93 = .ok (.iload_n 2, 1) := by decide +kernel
theorem dX11_nights_94 : decode cX11_nights 94 = .ok (.aload_n 0, 1) := by decide +kernel
theorem dX11_nights_95 : decode cX11_nights 95 = .ok (.invokevirtual 254, 3) := by decide +kernel
theorem dX11_nights_98 : decode cX11_nights 98 = .ok (.iand, 1) := by decide +kernel
theorem dX11_nights_99 : decode cX11_nights 99 = .ok (.iload_n 3, 1) := by decide +kernel
theorem dX11_nights_100 : decode cX11_nights 100 = .ok (.invokevirtual 404, 3) := by decide +kernel
theorem dX11_nights_103 : decode cX11_nights 103 = .ok (.aload_n 0, 1) := by decide +kernel
theorem dX11_nights_104 : decode cX11_nights 104 = .ok (.getfield 96, 3) := by decide +kernel
theorem dX11_nights_107 : decode cX11_nights 107 = .ok (.iload 4, 2) := by decide +kernel
theorem dX11_nights_109 : decode cX11_nights 109 = .ok (.iload 5, 2) := by decide +kernel
theorem dX11_nights_111 : decode cX11_nights 111 = .ok (.aload_n 0, 1) := by decide +kernel
theorem dX11_nights_112 : decode cX11_nights 112 = .ok (.invokevirtual 254, 3) := by decide +kernel
theorem dX11_nights_115 : decode cX11_nights 115 = .ok (.iand, 1) := by decide +kernel
theorem dX11_nights_116 : decode cX11_nights 116 = .ok (.iload 6, 2) := by decide +kernel
theorem dX11_nights_118 : decode cX11_nights 118 = .ok (.invokevirtual 404, 3) := by decide +kernel
theorem dX11_nights_121 : decode cX11_nights 121 = .ok (.iconst 0, 1) := by decide +kernel
theorem dX11_nights_122 : decode cX11_nights 122 = .ok (.istore 8, 2) := by decide +kernel
theorem dX11_nights_124 : decode cX11_nights 124 = .ok (.aload_n 0, 1) := by decide +kernel
theorem dX11_nights_125 : decode cX11_nights 125 = .ok (.getfield 92, 3) := by decide +kernel
theorem dX11_nights_128 : decode cX11_nights 128 = .ok (.getfield 361, 3) := by decide +kernel
theorem dX11_nights_131 : decode cX11_nights 131 = .ok (.iconst (-1), 1) := by decide +kernel
theorem dX11_nights_132 : decode cX11_nights 132 = .ok (.if_icmp .eq 14, 3) := by decide +kernel
theorem dX11_nights_135 : decode cX11_nights 135 = .ok (.aload_n 0, 1) := by decide +kernel
theorem dX11_nights_136 : decode cX11_nights 136 = .ok (.getfield 96, 3) := by decide +kernel
theorem dX11_nights_139 : decode cX11_nights 139 = .ok (.getfield 361, 3) := by decide +kernel
theorem dX11_nights_142 : decode cX11_nights 142 = .ok (.iconst (-1), 1) := by decide +kernel
theorem dX11_nights_143 : decode cX11_nights 143 = .ok (.if_icmp .ne 41, 3) := by decide +kernel
theorem dX11_nights_146 : decode cX11_nights 146 = .ok (.aload_n 0, 1) := by decide +kernel
theorem dX11_nights_147 : decode cX11_nights 147 = .ok (.aload_n 0, 1) := by decide +kernel
theorem dX11_nights_148 : decode cX11_nights 148 = .ok (.getfield 92, 3) := by decide +kernel
theorem dX11_nights_151 : decode cX11_nights 151 = .ok (.aload_n 0, 1) := by decide +kernel
theorem dX11_nights_152 : decode cX11_nights 152 = .ok (.getfield 55, 3) := by decide +kernel
theorem dX11_nights_155 : decode cX11_nights 155 = .ok (.iload 8, 2) := by decide +kernel
theorem dX11_nights_157 : decode cX11_nights 157 = .ok (.iload 7, 2) := by decide +kernel
theorem dX11_nights_159 : decode cX11_nights 159 = .ok (.invokevirtual 407, 3) := by decide +kernel
theorem dX11_nights_162 : decode cX11_nights 162 = .ok (.aload_n 0, 1) := by decide +kernel
theorem dX11_nights_163 : decode cX11_nights 163 = .ok (.aload_n 0, 1) := by decide +kernel
theorem dX11_nights_164 : decode cX11_nights 164 = .ok (.getfield 96, 3) := by decide +kernel
theorem dX11_nights_167 : decode cX11_nights 167 = .ok (.aload_n 0, 1) := by decide +kernel
theorem dX11_nights_168 : decode cX11_nights 168 = .ok (.getfield 58, 3) := by decide +kernel
theorem dX11_nights_171 : decode cX11_nights 171 = .ok (.iload 8, 2) := by decide +kernel
theorem dX11_nights_173 : decode cX11_nights 173 = .ok (.iload 7, 2) := by decide +kernel
theorem dX11_nights_175 : decode cX11_nights 175 = .ok (.invokevirtual 407, 3) := by decide +kernel
theorem dX11_nights_178 : decode cX11_nights 178 = .ok (.iinc 8 1, 3) := by decide +kernel
theorem dX11_nights_181 : decode cX11_nights 181 = .ok (.goto (-57), 3) := by decide +kernel
theorem dX11_nights_184 : decode cX11_nights 184 = .ok (.aload_n 0, 1) := by decide +kernel
theorem dX11_nights_185 : decode cX11_nights 185 = .ok (.iconst 1, 1) := by decide +kernel
theorem dX11_nights_186 : decode cX11_nights 186 = .ok (.putfield 411, 3) := by decide +kernel
theorem dX11_nights_189 : decode cX11_nights 189 = .ok (.aload_n 0, 1) := by decide +kernel
theorem dX11_nights_190 : decode cX11_nights 190 = .ok (.aload_n 0, 1) := by decide +kernel
theorem dX11_nights_191 : decode cX11_nights 191 = .ok (.getfield 92, 3) := by decide +kernel
theorem dX11_nights_194 : decode cX11_nights 194 = .ok (.getfield 414, 3) := by decide +kernel
theorem dX11_nights_197 : decode cX11_nights 197 = .ok (.aload_n 0, 1) := by decide +kernel
theorem dX11_nights_198 : decode cX11_nights 198 = .ok (.getfield 96, 3) := by decide +kernel
theorem dX11_nights_201 : decode cX11_nights 201 = .ok (.getfield 414, 3) := by decide +kernel
theorem dX11_nights_204 : decode cX11_nights 204 = .ok (.invokestatic 415, 3) := by decide +kernel
theorem dX11_nights_207 : decode cX11_nights 207 = .ok (.invokevirtual 130, 3) := by decide +kernel
theorem dX11_nights_210 : decode cX11_nights 210 = .ok (.ireturn, 1) := by decide +kernel
theorem dX11_night_0 : decode cX11_night 0 = .ok (.aload_n 0, 1) := by decide +kernel
theorem dX11_night_1 : decode cX11_night 1 = .ok (.iconst 0, 1) := by decide +kernel
theorem dX11_night_2 : decode cX11_night 2 = .ok (.putfield 117, 3) := by decide +kernel
theorem dX11_night_5 : decode cX11_night 5 = .ok (.aload_n 0, 1) := by decide +kernel
