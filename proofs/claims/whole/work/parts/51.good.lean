set_option maxRecDepth 100000 in
theorem gM_X8_fact : GoodIn lw_tbl wsX8_fact := (gi_cons pw_0 (goodIn_app (goodIn_app (gi_cons pw_11 (gi_cons pw_10 (gi_cons pw_9 (gi_cons pw_8 (gi_cons pw_7 (gi_cons pw_6 (gi_cons pw_5 (gi_cons pw_4 (gi_cons pw_3 (gi_cons pw_2 (gi_cons pw_1 gi_nil))))))))))) gc_X8) gc_X7))
set_option maxRecDepth 100000 in
theorem gM_X11_fact : GoodIn lw_tbl wsX11_fact := (gi_cons pw_12 (goodIn_app (gi_cons pw_25 (gi_cons pw_24 (gi_cons pw_23 (gi_cons pw_22 (gi_cons pw_21 (gi_cons pw_20 (gi_cons pw_19 (gi_cons pw_18 (gi_cons pw_17 (gi_cons pw_16 (gi_cons pw_15 (gi_cons pw_14 (gi_cons pw_13 gi_nil))))))))))))) gc_X11))
set_option maxRecDepth 100000 in
theorem gM_X8_sign : GoodIn lw_tbl wsX8_sign := (gi_cons pw_26 (goodIn_app (goodIn_app (gi_cons pw_11 (gi_cons pw_10 (gi_cons pw_9 (gi_cons pw_8 (gi_cons pw_7 (gi_cons pw_6 (gi_cons pw_5 (gi_cons pw_4 (gi_cons pw_3 (gi_cons pw_2 (gi_cons pw_1 gi_nil))))))))))) gc_X8) gc_X7))
set_option maxRecDepth 100000 in
theorem gM_X11_sign : GoodIn lw_tbl wsX11_sign := (gi_cons pw_27 (goodIn_app (gi_cons pw_25 (gi_cons pw_24 (gi_cons pw_29 (gi_cons pw_28 (gi_cons pw_23 (gi_cons pw_22 (gi_cons pw_21 (gi_cons pw_20 (gi_cons pw_19 (gi_cons pw_18 (gi_cons pw_17 (gi_cons pw_16 (gi_cons pw_15 (gi_cons pw_14 (gi_cons pw_13 gi_nil))))))))))))))) gc_X11))
set_option maxRecDepth 100000 in
theorem gM_X8_person : GoodIn lw_tbl wsX8_person := (gi_cons pw_30 (goodIn_app (goodIn_app (gi_cons pw_11 (gi_cons pw_39 (gi_cons pw_38 (gi_cons pw_7 (gi_cons pw_37 (gi_cons pw_10 (gi_cons pw_9 (gi_cons pw_8 (gi_cons pw_6 (gi_cons pw_5 (gi_cons pw_36 (gi_cons pw_35 (gi_cons pw_34 (gi_cons pw_33 (gi_cons pw_32 (gi_cons pw_31 (gi_cons pw_4 (gi_cons pw_3 (gi_cons pw_2 (gi_cons pw_1 gi_nil)))))))))))))))))))) gc_X8) gc_X7))
set_option maxRecDepth 100000 in
theorem gM_X11_person : GoodIn lw_tbl wsX11_person := (gi_cons pw_40 (goodIn_app (gi_cons pw_25 (gi_cons pw_45 (gi_cons pw_44 (gi_cons pw_43 (gi_cons pw_42 (gi_cons pw_20 (gi_cons pw_41 (gi_cons pw_23 (gi_cons pw_22 (gi_cons pw_21 (gi_cons pw_19 (gi_cons pw_18 (gi_cons pw_17 (gi_cons pw_16 (gi_cons pw_15 (gi_cons pw_14 (gi_cons pw_13 gi_nil))))))))))))))))) gc_X11))
set_option maxRecDepth 100000 in
theorem gM_X8_goal : GoodIn lw_tbl wsX8_goal := (gi_cons pw_46 (goodIn_app (goodIn_app (gi_cons pw_5 (gi_cons pw_11 (gi_cons pw_39 (gi_cons pw_38 (gi_cons pw_7 (gi_cons pw_37 gi_nil)))))) gc_X8) gc_X7))
set_option maxRecDepth 100000 in
theorem gM_X11_goal : GoodIn lw_tbl wsX11_goal := (gi_cons pw_47 (goodIn_app (gi_cons pw_25 (gi_cons pw_18 (gi_cons pw_17 (gi_cons pw_48 (gi_cons pw_43 (gi_cons pw_42 (gi_cons pw_20 (gi_cons pw_41 gi_nil)))))))) gc_X11))
set_option maxRecDepth 100000 in
theorem gM_X8_feed : GoodIn lw_tbl wsX8_feed := (gi_cons pw_49 (goodIn_app (goodIn_app (gi_cons pw_61 (gi_cons pw_60 (gi_cons pw_59 (gi_cons pw_58 (gi_cons pw_57 (gi_cons pw_56 (gi_cons pw_55 (gi_cons pw_54 (gi_cons pw_53 (gi_cons pw_52 (gi_cons pw_51 (gi_cons pw_50 gi_nil)))))))))))) gc_X8) gc_X4))
set_option maxRecDepth 100000 in
theorem gM_X11_feed : GoodIn lw_tbl wsX11_feed := (gi_cons pw_62 (goodIn_app (gi_cons pw_25 (gi_cons pw_64 (gi_cons pw_63 gi_nil))) gc_X11))
set_option maxRecDepth 100000 in
theorem gM_X8_book_r1 : GoodIn lw_tbl wsX8_book_r1 := (gi_cons pw_61 (gi_cons pw_11 (gi_cons pw_10 (gi_cons pw_9 (gi_cons pw_8 (gi_cons pw_7 (gi_cons pw_6 (gi_cons pw_5 (gi_cons pw_80 (gi_cons pw_79 (gi_cons pw_78 (gi_cons pw_57 (gi_cons pw_77 (gi_cons pw_76 (gi_cons pw_75 (gi_cons pw_74 (gi_cons pw_73 (gi_cons pw_72 (gi_cons pw_71 (gi_cons pw_70 (gi_cons pw_69 (gi_cons pw_68 (gi_cons pw_67 (gi_cons pw_66 gi_nil))))))))))))))))))))))))
set_option maxRecDepth 100000 in
theorem gM_X8_book_r2 : GoodIn lw_tbl wsX8_book_r2 := (gi_cons pw_103 (gi_cons pw_102 (gi_cons pw_101 (gi_cons pw_100 (gi_cons pw_99 (gi_cons pw_50 (gi_cons pw_98 (gi_cons pw_97 (gi_cons pw_96 (gi_cons pw_95 (gi_cons pw_94 (gi_cons pw_93 (gi_cons pw_92 (gi_cons pw_91 (gi_cons pw_90 (gi_cons pw_89 (gi_cons pw_88 (gi_cons pw_87 (gi_cons pw_86 (gi_cons pw_85 (gi_cons pw_84 (gi_cons pw_83 (gi_cons pw_82 (gi_cons pw_81 gi_nil))))))))))))))))))))))))
set_option maxRecDepth 100000 in
theorem gM_X8_book_r3 : GoodIn lw_tbl wsX8_book_r3 := (gi_cons pw_127 (gi_cons pw_126 (gi_cons pw_125 (gi_cons pw_124 (gi_cons pw_123 (gi_cons pw_122 (gi_cons pw_121 (gi_cons pw_120 (gi_cons pw_119 (gi_cons pw_118 (gi_cons pw_117 (gi_cons pw_116 (gi_cons pw_115 (gi_cons pw_114 (gi_cons pw_113 (gi_cons pw_112 (gi_cons pw_111 (gi_cons pw_110 (gi_cons pw_109 (gi_cons pw_108 (gi_cons pw_107 (gi_cons pw_106 (gi_cons pw_105 (gi_cons pw_104 gi_nil))))))))))))))))))))))))
set_option maxRecDepth 100000 in
theorem gM_X8_book_r4 : GoodIn lw_tbl wsX8_book_r4 := (gi_cons pw_151 (gi_cons pw_150 (gi_cons pw_149 (gi_cons pw_148 (gi_cons pw_147 (gi_cons pw_146 (gi_cons pw_145 (gi_cons pw_144 (gi_cons pw_143 (gi_cons pw_142 (gi_cons pw_141 (gi_cons pw_140 (gi_cons pw_139 (gi_cons pw_138 (gi_cons pw_137 (gi_cons pw_136 (gi_cons pw_135 (gi_cons pw_134 (gi_cons pw_133 (gi_cons pw_132 (gi_cons pw_131 (gi_cons pw_130 (gi_cons pw_129 (gi_cons pw_128 gi_nil))))))))))))))))))))))))
set_option maxRecDepth 100000 in
theorem gM_X8_book_r5 : GoodIn lw_tbl wsX8_book_r5 := (gi_cons pw_174 (gi_cons pw_173 (gi_cons pw_172 (gi_cons pw_171 (gi_cons pw_170 (gi_cons pw_169 (gi_cons pw_168 (gi_cons pw_167 (gi_cons pw_166 (gi_cons pw_165 (gi_cons pw_164 (gi_cons pw_163 (gi_cons pw_162 (gi_cons pw_161 (gi_cons pw_33 (gi_cons pw_160 (gi_cons pw_159 (gi_cons pw_158 (gi_cons pw_157 (gi_cons pw_156 (gi_cons pw_155 (gi_cons pw_154 (gi_cons pw_153 (gi_cons pw_152 gi_nil))))))))))))))))))))))))
set_option maxRecDepth 100000 in
theorem gM_X8_book_r6 : GoodIn lw_tbl wsX8_book_r6 := (gi_cons pw_198 (gi_cons pw_197 (gi_cons pw_196 (gi_cons pw_195 (gi_cons pw_194 (gi_cons pw_193 (gi_cons pw_192 (gi_cons pw_191 (gi_cons pw_190 (gi_cons pw_189 (gi_cons pw_188 (gi_cons pw_187 (gi_cons pw_186 (gi_cons pw_185 (gi_cons pw_184 (gi_cons pw_183 (gi_cons pw_182 (gi_cons pw_181 (gi_cons pw_180 (gi_cons pw_179 (gi_cons pw_178 (gi_cons pw_177 (gi_cons pw_176 (gi_cons pw_175 gi_nil))))))))))))))))))))))))
set_option maxRecDepth 100000 in
theorem gM_X8_book_r7 : GoodIn lw_tbl wsX8_book_r7 := (gi_cons pw_204 (gi_cons pw_203 (gi_cons pw_202 (gi_cons pw_201 (gi_cons pw_200 (gi_cons pw_199 (gi_cons pw_4 (gi_cons pw_3 (gi_cons pw_2 (gi_cons pw_1 gi_nil))))))))))
set_option maxRecDepth 100000 in
theorem gM_X8_book : GoodIn lw_tbl wsX8_book := (gi_cons pw_65 (goodIn_app (goodIn_app (goodIn_app (goodIn_app gM_X8_book_r1 (goodIn_app gM_X8_book_r2 (goodIn_app gM_X8_book_r3 (goodIn_app gM_X8_book_r4 (goodIn_app gM_X8_book_r5 (goodIn_app gM_X8_book_r6 gM_X8_book_r7)))))) gc_X8) gc_X4) gc_X7))
set_option maxRecDepth 100000 in
theorem gM_X11_book_r1 : GoodIn lw_tbl wsX11_book_r1 := (gi_cons pw_25 (gi_cons pw_64 (gi_cons pw_220 (gi_cons pw_219 (gi_cons pw_218 (gi_cons pw_18 (gi_cons pw_17 (gi_cons pw_217 (gi_cons pw_23 (gi_cons pw_22 (gi_cons pw_21 (gi_cons pw_20 (gi_cons pw_19 (gi_cons pw_216 (gi_cons pw_215 (gi_cons pw_214 (gi_cons pw_213 (gi_cons pw_212 (gi_cons pw_211 (gi_cons pw_210 (gi_cons pw_209 (gi_cons pw_208 (gi_cons pw_207 (gi_cons pw_206 gi_nil))))))))))))))))))))))))
set_option maxRecDepth 100000 in
theorem gM_X11_book_r2 : GoodIn lw_tbl wsX11_book_r2 := (gi_cons pw_243 (gi_cons pw_242 (gi_cons pw_241 (gi_cons pw_240 (gi_cons pw_239 (gi_cons pw_238 (gi_cons pw_237 (gi_cons pw_236 (gi_cons pw_235 (gi_cons pw_234 (gi_cons pw_233 (gi_cons pw_232 (gi_cons pw_63 (gi_cons pw_231 (gi_cons pw_230 (gi_cons pw_229 (gi_cons pw_228 (gi_cons pw_227 (gi_cons pw_226 (gi_cons pw_225 (gi_cons pw_224 (gi_cons pw_223 (gi_cons pw_222 (gi_cons pw_221 gi_nil))))))))))))))))))))))))
set_option maxRecDepth 100000 in
theorem gM_X11_book_r3 : GoodIn lw_tbl wsX11_book_r3 := (gi_cons pw_247 (gi_cons pw_246 (gi_cons pw_245 (gi_cons pw_127 (gi_cons pw_126 (gi_cons pw_125 (gi_cons pw_124 (gi_cons pw_123 (gi_cons pw_122 (gi_cons pw_121 (gi_cons pw_120 (gi_cons pw_119 (gi_cons pw_118 (gi_cons pw_117 (gi_cons pw_244 (gi_cons pw_115 (gi_cons pw_114 (gi_cons pw_113 (gi_cons pw_112 (gi_cons pw_111 (gi_cons pw_110 (gi_cons pw_109 (gi_cons pw_108 (gi_cons pw_107 gi_nil))))))))))))))))))))))))
set_option maxRecDepth 100000 in
theorem gM_X11_book_r4 : GoodIn lw_tbl wsX11_book_r4 := (gi_cons pw_106 (gi_cons pw_105 (gi_cons pw_104 (gi_cons pw_151 (gi_cons pw_150 (gi_cons pw_149 (gi_cons pw_148 (gi_cons pw_147 (gi_cons pw_146 (gi_cons pw_145 (gi_cons pw_144 (gi_cons pw_143 (gi_cons pw_142 (gi_cons pw_141 (gi_cons pw_140 (gi_cons pw_139 (gi_cons pw_138 (gi_cons pw_137 (gi_cons pw_136 (gi_cons pw_135 (gi_cons pw_134 (gi_cons pw_133 (gi_cons pw_132 (gi_cons pw_131 gi_nil))))))))))))))))))))))))
set_option maxRecDepth 100000 in
theorem gM_X11_book_r5 : GoodIn lw_tbl wsX11_book_r5 := (gi_cons pw_130 (gi_cons pw_129 (gi_cons pw_128 (gi_cons pw_263 (gi_cons pw_262 (gi_cons pw_261 (gi_cons pw_260 (gi_cons pw_259 (gi_cons pw_24 (gi_cons pw_29 (gi_cons pw_258 (gi_cons pw_257 (gi_cons pw_256 (gi_cons pw_255 (gi_cons pw_43 (gi_cons pw_42 (gi_cons pw_41 (gi_cons pw_254 (gi_cons pw_253 (gi_cons pw_252 (gi_cons pw_251 (gi_cons pw_250 (gi_cons pw_249 (gi_cons pw_248 gi_nil))))))))))))))))))))))))
set_option maxRecDepth 100000 in
theorem gM_X11_book_r6 : GoodIn lw_tbl wsX11_book_r6 := (gi_cons pw_264 (gi_cons pw_16 (gi_cons pw_15 (gi_cons pw_14 (gi_cons pw_13 gi_nil)))))
set_option maxRecDepth 100000 in
theorem gM_X11_book : GoodIn lw_tbl wsX11_book := (gi_cons pw_205 (goodIn_app (goodIn_app (goodIn_app gM_X11_book_r1 (goodIn_app gM_X11_book_r2 (goodIn_app gM_X11_book_r3 (goodIn_app gM_X11_book_r4 (goodIn_app gM_X11_book_r5 gM_X11_book_r6))))) gc_X11) gc_X10))
set_option maxRecDepth 100000 in
theorem gM_X8_fault : GoodIn lw_tbl wsX8_fault := (gi_cons pw_265 (goodIn_app (goodIn_app (gi_cons pw_61 gi_nil) gc_X8) gc_X4))
set_option maxRecDepth 100000 in
theorem gM_X11_fault : GoodIn lw_tbl wsX11_fault := (gi_cons pw_266 (goodIn_app (gi_cons pw_25 (gi_cons pw_218 gi_nil)) gc_X11))
set_option maxRecDepth 100000 in
theorem gM_X8_where : GoodIn lw_tbl wsX8_where := (gi_cons pw_267 (goodIn_app (goodIn_app (gi_cons pw_5 (gi_cons pw_61 gi_nil)) gc_X8) gc_X4))
set_option maxRecDepth 100000 in
theorem gM_X11_where : GoodIn lw_tbl wsX11_where := (gi_cons pw_268 (goodIn_app (gi_cons pw_25 (gi_cons pw_17 gi_nil)) gc_X11))
set_option maxRecDepth 100000 in
theorem gM_X8_steps : GoodIn lw_tbl wsX8_steps := (gi_cons pw_269 (goodIn_app (goodIn_app (gi_cons pw_11 (gi_cons pw_278 (gi_cons pw_277 (gi_cons pw_276 (gi_cons pw_33 (gi_cons pw_275 (gi_cons pw_274 (gi_cons pw_273 (gi_cons pw_272 (gi_cons pw_271 (gi_cons pw_270 (gi_cons pw_203 gi_nil)))))))))))) gc_X8) gc_X7))
set_option maxRecDepth 100000 in
theorem gM_X11_steps : GoodIn lw_tbl wsX11_steps := (gi_cons pw_279 (goodIn_app (gi_cons pw_25 (gi_cons pw_212 (gi_cons pw_283 (gi_cons pw_282 (gi_cons pw_281 (gi_cons pw_20 (gi_cons pw_280 (gi_cons pw_217 gi_nil)))))))) gc_X11))
set_option maxRecDepth 100000 in
theorem gM_X8_step : GoodIn lw_tbl wsX8_step := (gi_cons pw_284 (goodIn_app (goodIn_app (gi_cons pw_11 (gi_cons pw_292 (gi_cons pw_291 (gi_cons pw_290 (gi_cons pw_7 (gi_cons pw_289 (gi_cons pw_278 (gi_cons pw_277 (gi_cons pw_276 (gi_cons pw_33 (gi_cons pw_275 (gi_cons pw_274 (gi_cons pw_273 (gi_cons pw_272 (gi_cons pw_271 (gi_cons pw_270 (gi_cons pw_203 (gi_cons pw_288 (gi_cons pw_287 (gi_cons pw_286 (gi_cons pw_285 (gi_cons pw_159 gi_nil)))))))))))))))))))))) gc_X8) gc_X7))
set_option maxRecDepth 100000 in
theorem gM_X11_step : GoodIn lw_tbl wsX11_step := (gi_cons pw_293 (goodIn_app (gi_cons pw_25 (gi_cons pw_212 (gi_cons pw_209 (gi_cons pw_206 (gi_cons pw_208 (gi_cons pw_207 (gi_cons pw_259 (gi_cons pw_283 (gi_cons pw_282 (gi_cons pw_281 (gi_cons pw_20 (gi_cons pw_280 (gi_cons pw_217 gi_nil))))))))))))) gc_X11))
set_option maxRecDepth 100000 in
theorem gM_X8_play_r1 : GoodIn lw_tbl wsX8_play_r1 := (gi_cons pw_11 (gi_cons pw_302 (gi_cons pw_301 (gi_cons pw_278 (gi_cons pw_277 (gi_cons pw_276 (gi_cons pw_33 (gi_cons pw_275 (gi_cons pw_274 (gi_cons pw_10 (gi_cons pw_9 (gi_cons pw_8 (gi_cons pw_7 (gi_cons pw_6 (gi_cons pw_5 (gi_cons pw_39 (gi_cons pw_38 (gi_cons pw_37 (gi_cons pw_300 (gi_cons pw_299 (gi_cons pw_298 (gi_cons pw_297 (gi_cons pw_296 (gi_cons pw_295 gi_nil))))))))))))))))))))))))
set_option maxRecDepth 100000 in
theorem gM_X8_play_r2 : GoodIn lw_tbl wsX8_play_r2 := (gi_cons pw_326 (gi_cons pw_325 (gi_cons pw_324 (gi_cons pw_323 (gi_cons pw_322 (gi_cons pw_321 (gi_cons pw_320 (gi_cons pw_319 (gi_cons pw_318 (gi_cons pw_317 (gi_cons pw_316 (gi_cons pw_315 (gi_cons pw_314 (gi_cons pw_313 (gi_cons pw_312 (gi_cons pw_311 (gi_cons pw_310 (gi_cons pw_309 (gi_cons pw_308 (gi_cons pw_307 (gi_cons pw_306 (gi_cons pw_305 (gi_cons pw_304 (gi_cons pw_303 gi_nil))))))))))))))))))))))))
set_option maxRecDepth 100000 in
theorem gM_X8_play_r3 : GoodIn lw_tbl wsX8_play_r3 := (gi_cons pw_346 (gi_cons pw_345 (gi_cons pw_344 (gi_cons pw_343 (gi_cons pw_342 (gi_cons pw_341 (gi_cons pw_340 (gi_cons pw_339 (gi_cons pw_338 (gi_cons pw_337 (gi_cons pw_336 (gi_cons pw_335 (gi_cons pw_334 (gi_cons pw_287 (gi_cons pw_286 (gi_cons pw_285 (gi_cons pw_159 (gi_cons pw_333 (gi_cons pw_332 (gi_cons pw_331 (gi_cons pw_330 (gi_cons pw_329 (gi_cons pw_328 (gi_cons pw_327 gi_nil))))))))))))))))))))))))
set_option maxRecDepth 100000 in
theorem gM_X8_play_r4 : GoodIn lw_tbl wsX8_play_r4 := (gi_cons pw_366 (gi_cons pw_365 (gi_cons pw_364 (gi_cons pw_363 (gi_cons pw_272 (gi_cons pw_271 (gi_cons pw_270 (gi_cons pw_203 (gi_cons pw_362 (gi_cons pw_361 (gi_cons pw_360 (gi_cons pw_359 (gi_cons pw_358 (gi_cons pw_357 (gi_cons pw_356 (gi_cons pw_355 (gi_cons pw_354 (gi_cons pw_353 (gi_cons pw_352 (gi_cons pw_351 (gi_cons pw_350 (gi_cons pw_349 (gi_cons pw_348 (gi_cons pw_347 gi_nil))))))))))))))))))))))))
set_option maxRecDepth 100000 in
theorem gM_X8_play_r5 : GoodIn lw_tbl wsX8_play_r5 := (gi_cons pw_371 (gi_cons pw_370 (gi_cons pw_369 (gi_cons pw_368 (gi_cons pw_367 (gi_cons pw_4 (gi_cons pw_3 (gi_cons pw_2 (gi_cons pw_1 gi_nil)))))))))
set_option maxRecDepth 100000 in
theorem gM_X8_play : GoodIn lw_tbl wsX8_play := (gi_cons pw_294 (goodIn_app (goodIn_app (goodIn_app (goodIn_app (goodIn_app gM_X8_play_r1 (goodIn_app gM_X8_play_r2 (goodIn_app gM_X8_play_r3 (goodIn_app gM_X8_play_r4 gM_X8_play_r5)))) gc_X8) gc_X6) gc_X7) gc_X3))
set_option maxRecDepth 100000 in
theorem gM_X11_play_r1 : GoodIn lw_tbl wsX11_play_r1 := (gi_cons pw_25 (gi_cons pw_384 (gi_cons pw_383 (gi_cons pw_382 (gi_cons pw_381 (gi_cons pw_380 (gi_cons pw_379 (gi_cons pw_378 (gi_cons pw_377 (gi_cons pw_376 (gi_cons pw_375 (gi_cons pw_374 (gi_cons pw_373 (gi_cons pw_283 (gi_cons pw_282 (gi_cons pw_281 (gi_cons pw_20 (gi_cons pw_280 (gi_cons pw_217 (gi_cons pw_23 (gi_cons pw_22 (gi_cons pw_21 (gi_cons pw_19 (gi_cons pw_18 gi_nil))))))))))))))))))))))))
set_option maxRecDepth 100000 in
theorem gM_X11_play_r2 : GoodIn lw_tbl wsX11_play_r2 := (gi_cons pw_17 (gi_cons pw_398 (gi_cons pw_397 (gi_cons pw_396 (gi_cons pw_43 (gi_cons pw_42 (gi_cons pw_41 (gi_cons pw_395 (gi_cons pw_394 (gi_cons pw_393 (gi_cons pw_392 (gi_cons pw_391 (gi_cons pw_390 (gi_cons pw_212 (gi_cons pw_389 (gi_cons pw_209 (gi_cons pw_206 (gi_cons pw_208 (gi_cons pw_207 (gi_cons pw_259 (gi_cons pw_388 (gi_cons pw_387 (gi_cons pw_386 (gi_cons pw_385 gi_nil))))))))))))))))))))))))
set_option maxRecDepth 100000 in
theorem gM_X11_play_r3 : GoodIn lw_tbl wsX11_play_r3 := (gi_cons pw_24 (gi_cons pw_414 (gi_cons pw_413 (gi_cons pw_412 (gi_cons pw_411 (gi_cons pw_48 (gi_cons pw_410 (gi_cons pw_409 (gi_cons pw_408 (gi_cons pw_407 (gi_cons pw_28 (gi_cons pw_406 (gi_cons pw_405 (gi_cons pw_404 (gi_cons pw_403 (gi_cons pw_45 (gi_cons pw_44 (gi_cons pw_402 (gi_cons pw_401 (gi_cons pw_400 (gi_cons pw_399 (gi_cons pw_16 (gi_cons pw_15 (gi_cons pw_14 gi_nil))))))))))))))))))))))))
set_option maxRecDepth 100000 in
theorem gM_X11_play_r4 : GoodIn lw_tbl wsX11_play_r4 := (gi_cons pw_13 gi_nil)
set_option maxRecDepth 100000 in
theorem gM_X11_play : GoodIn lw_tbl wsX11_play := (gi_cons pw_372 (goodIn_app (goodIn_app gM_X11_play_r1 (goodIn_app gM_X11_play_r2 (goodIn_app gM_X11_play_r3 gM_X11_play_r4))) gc_X11))
set_option maxRecDepth 100000 in
theorem gM_X8_played : GoodIn lw_tbl wsX8_played := (gi_cons pw_415 (goodIn_app (goodIn_app (gi_cons pw_302 (gi_cons pw_423 (gi_cons pw_422 (gi_cons pw_421 (gi_cons pw_7 (gi_cons pw_420 (gi_cons pw_10 (gi_cons pw_9 (gi_cons pw_8 (gi_cons pw_6 (gi_cons pw_5 (gi_cons pw_419 (gi_cons pw_418 (gi_cons pw_417 (gi_cons pw_297 (gi_cons pw_416 (gi_cons pw_320 (gi_cons pw_318 (gi_cons pw_325 (gi_cons pw_322 (gi_cons pw_4 (gi_cons pw_3 (gi_cons pw_2 (gi_cons pw_1 gi_nil)))))))))))))))))))))))) gc_X8) gc_X6))
set_option maxRecDepth 100000 in
theorem gM_X11_played : GoodIn lw_tbl wsX11_played := (gi_cons pw_424 (goodIn_app (gi_cons pw_25 (gi_cons pw_383 (gi_cons pw_18 (gi_cons pw_17 (gi_cons pw_381 (gi_cons pw_379 (gi_cons pw_377 (gi_cons pw_375 (gi_cons pw_23 (gi_cons pw_22 (gi_cons pw_21 (gi_cons pw_20 (gi_cons pw_19 gi_nil))))))))))))) gc_X11))
set_option maxRecDepth 100000 in
theorem gM_X8_path : GoodIn lw_tbl wsX8_path := (gi_cons pw_425 (goodIn_app (goodIn_app (gi_cons pw_302 (gi_cons pw_429 (gi_cons pw_428 (gi_cons pw_427 (gi_cons pw_297 (gi_cons pw_426 (gi_cons pw_318 (gi_cons pw_364 gi_nil)))))))) gc_X8) gc_X6))
set_option maxRecDepth 100000 in
theorem gM_X11_path : GoodIn lw_tbl wsX11_path := (gi_cons pw_430 (goodIn_app (gi_cons pw_25 (gi_cons pw_383 (gi_cons pw_379 (gi_cons pw_374 gi_nil)))) gc_X11))
set_option maxRecDepth 100000 in
theorem gM_X8_all_r1 : GoodIn lw_tbl wsX8_all_r1 := (gi_cons pw_11 (gi_cons pw_439 (gi_cons pw_438 (gi_cons pw_437 (gi_cons pw_278 (gi_cons pw_277 (gi_cons pw_276 (gi_cons pw_33 (gi_cons pw_275 (gi_cons pw_274 (gi_cons pw_10 (gi_cons pw_9 (gi_cons pw_8 (gi_cons pw_7 (gi_cons pw_6 (gi_cons pw_5 (gi_cons pw_39 (gi_cons pw_38 (gi_cons pw_37 (gi_cons pw_436 (gi_cons pw_435 (gi_cons pw_434 (gi_cons pw_433 (gi_cons pw_432 gi_nil))))))))))))))))))))))))
set_option maxRecDepth 100000 in
theorem gM_X8_all_r2 : GoodIn lw_tbl wsX8_all_r2 := (gi_cons pw_459 (gi_cons pw_458 (gi_cons pw_457 (gi_cons pw_456 (gi_cons pw_455 (gi_cons pw_454 (gi_cons pw_453 (gi_cons pw_452 (gi_cons pw_451 (gi_cons pw_450 (gi_cons pw_311 (gi_cons pw_310 (gi_cons pw_309 (gi_cons pw_308 (gi_cons pw_449 (gi_cons pw_448 (gi_cons pw_447 (gi_cons pw_446 (gi_cons pw_445 (gi_cons pw_444 (gi_cons pw_443 (gi_cons pw_442 (gi_cons pw_441 (gi_cons pw_440 gi_nil))))))))))))))))))))))))
set_option maxRecDepth 100000 in
theorem gM_X8_all_r3 : GoodIn lw_tbl wsX8_all_r3 := (gi_cons pw_483 (gi_cons pw_482 (gi_cons pw_481 (gi_cons pw_480 (gi_cons pw_479 (gi_cons pw_478 (gi_cons pw_477 (gi_cons pw_476 (gi_cons pw_475 (gi_cons pw_474 (gi_cons pw_473 (gi_cons pw_472 (gi_cons pw_471 (gi_cons pw_470 (gi_cons pw_469 (gi_cons pw_468 (gi_cons pw_467 (gi_cons pw_466 (gi_cons pw_465 (gi_cons pw_464 (gi_cons pw_463 (gi_cons pw_462 (gi_cons pw_461 (gi_cons pw_460 gi_nil))))))))))))))))))))))))
set_option maxRecDepth 100000 in
theorem gM_X8_all_r4 : GoodIn lw_tbl wsX8_all_r4 := (gi_cons pw_503 (gi_cons pw_502 (gi_cons pw_501 (gi_cons pw_500 (gi_cons pw_499 (gi_cons pw_498 (gi_cons pw_497 (gi_cons pw_496 (gi_cons pw_495 (gi_cons pw_494 (gi_cons pw_493 (gi_cons pw_344 (gi_cons pw_314 (gi_cons pw_343 (gi_cons pw_492 (gi_cons pw_491 (gi_cons pw_490 (gi_cons pw_489 (gi_cons pw_488 (gi_cons pw_487 (gi_cons pw_486 (gi_cons pw_485 (gi_cons pw_484 (gi_cons pw_301 gi_nil))))))))))))))))))))))))
set_option maxRecDepth 100000 in
theorem gM_X8_all_r5 : GoodIn lw_tbl wsX8_all_r5 := (gi_cons pw_300 (gi_cons pw_299 (gi_cons pw_298 (gi_cons pw_297 (gi_cons pw_296 (gi_cons pw_295 (gi_cons pw_326 (gi_cons pw_325 (gi_cons pw_324 (gi_cons pw_323 (gi_cons pw_322 (gi_cons pw_321 (gi_cons pw_320 (gi_cons pw_319 (gi_cons pw_318 (gi_cons pw_317 (gi_cons pw_316 (gi_cons pw_315 (gi_cons pw_313 (gi_cons pw_312 (gi_cons pw_307 (gi_cons pw_306 (gi_cons pw_305 (gi_cons pw_304 gi_nil))))))))))))))))))))))))
set_option maxRecDepth 100000 in
theorem gM_X8_all_r6 : GoodIn lw_tbl wsX8_all_r6 := (gi_cons pw_303 (gi_cons pw_346 (gi_cons pw_345 (gi_cons pw_342 (gi_cons pw_341 (gi_cons pw_340 (gi_cons pw_339 (gi_cons pw_338 (gi_cons pw_337 (gi_cons pw_336 (gi_cons pw_335 (gi_cons pw_334 (gi_cons pw_287 (gi_cons pw_286 (gi_cons pw_285 (gi_cons pw_159 (gi_cons pw_333 (gi_cons pw_332 (gi_cons pw_331 (gi_cons pw_330 (gi_cons pw_329 (gi_cons pw_328 (gi_cons pw_327 (gi_cons pw_366 gi_nil))))))))))))))))))))))))
set_option maxRecDepth 100000 in
theorem gM_X8_all_r7 : GoodIn lw_tbl wsX8_all_r7 := (gi_cons pw_365 (gi_cons pw_364 (gi_cons pw_363 (gi_cons pw_272 (gi_cons pw_271 (gi_cons pw_270 (gi_cons pw_203 (gi_cons pw_362 (gi_cons pw_361 (gi_cons pw_360 (gi_cons pw_359 (gi_cons pw_358 (gi_cons pw_357 (gi_cons pw_356 (gi_cons pw_355 (gi_cons pw_354 (gi_cons pw_353 (gi_cons pw_352 (gi_cons pw_351 (gi_cons pw_350 (gi_cons pw_349 (gi_cons pw_348 (gi_cons pw_347 (gi_cons pw_371 gi_nil))))))))))))))))))))))))
set_option maxRecDepth 100000 in
theorem gM_X8_all_r8 : GoodIn lw_tbl wsX8_all_r8 := (gi_cons pw_370 (gi_cons pw_369 (gi_cons pw_368 (gi_cons pw_367 (gi_cons pw_512 (gi_cons pw_511 (gi_cons pw_510 (gi_cons pw_509 (gi_cons pw_508 (gi_cons pw_507 (gi_cons pw_506 (gi_cons pw_505 (gi_cons pw_504 (gi_cons pw_4 (gi_cons pw_3 (gi_cons pw_2 (gi_cons pw_1 gi_nil)))))))))))))))))
set_option maxRecDepth 100000 in
theorem gM_X8_all : GoodIn lw_tbl wsX8_all := (gi_cons pw_431 (goodIn_app (goodIn_app (goodIn_app (goodIn_app (goodIn_app (goodIn_app (goodIn_app gM_X8_all_r1 (goodIn_app gM_X8_all_r2 (goodIn_app gM_X8_all_r3 (goodIn_app gM_X8_all_r4 (goodIn_app gM_X8_all_r5 (goodIn_app gM_X8_all_r6 (goodIn_app gM_X8_all_r7 gM_X8_all_r8))))))) gc_X8) gc_X5) gc_X6) gc_X7) gc_X0) gc_X3))
set_option maxRecDepth 100000 in
theorem gM_X11_all_r1 : GoodIn lw_tbl wsX11_all_r1 := (gi_cons pw_25 (gi_cons pw_522 (gi_cons pw_521 (gi_cons pw_520 (gi_cons pw_519 (gi_cons pw_518 (gi_cons pw_517 (gi_cons pw_516 (gi_cons pw_515 (gi_cons pw_514 (gi_cons pw_382 (gi_cons pw_283 (gi_cons pw_282 (gi_cons pw_281 (gi_cons pw_20 (gi_cons pw_280 (gi_cons pw_217 (gi_cons pw_23 (gi_cons pw_22 (gi_cons pw_21 (gi_cons pw_19 (gi_cons pw_18 (gi_cons pw_17 (gi_cons pw_43 gi_nil))))))))))))))))))))))))
set_option maxRecDepth 100000 in
theorem gM_X11_all_r2 : GoodIn lw_tbl wsX11_all_r2 := (gi_cons pw_42 (gi_cons pw_41 (gi_cons pw_535 (gi_cons pw_534 (gi_cons pw_533 (gi_cons pw_532 (gi_cons pw_45 (gi_cons pw_29 (gi_cons pw_531 (gi_cons pw_530 (gi_cons pw_388 (gi_cons pw_387 (gi_cons pw_386 (gi_cons pw_385 (gi_cons pw_24 (gi_cons pw_529 (gi_cons pw_528 (gi_cons pw_527 (gi_cons pw_526 (gi_cons pw_525 (gi_cons pw_524 (gi_cons pw_523 (gi_cons pw_395 (gi_cons pw_394 gi_nil))))))))))))))))))))))))
set_option maxRecDepth 100000 in
theorem gM_X11_all_r3 : GoodIn lw_tbl wsX11_all_r3 := (gi_cons pw_393 (gi_cons pw_392 (gi_cons pw_391 (gi_cons pw_378 (gi_cons pw_380 (gi_cons pw_390 (gi_cons pw_376 (gi_cons pw_212 (gi_cons pw_373 (gi_cons pw_389 (gi_cons pw_209 (gi_cons pw_206 (gi_cons pw_208 (gi_cons pw_207 (gi_cons pw_259 (gi_cons pw_414 (gi_cons pw_413 (gi_cons pw_412 (gi_cons pw_411 (gi_cons pw_48 (gi_cons pw_410 (gi_cons pw_409 (gi_cons pw_408 (gi_cons pw_407 gi_nil))))))))))))))))))))))))
set_option maxRecDepth 100000 in
theorem gM_X11_all_r4 : GoodIn lw_tbl wsX11_all_r4 := (gi_cons pw_28 (gi_cons pw_406 (gi_cons pw_405 (gi_cons pw_404 (gi_cons pw_403 (gi_cons pw_44 (gi_cons pw_402 (gi_cons pw_401 (gi_cons pw_400 (gi_cons pw_399 (gi_cons pw_16 (gi_cons pw_15 (gi_cons pw_14 (gi_cons pw_13 gi_nil))))))))))))))
set_option maxRecDepth 100000 in
theorem gM_X11_all : GoodIn lw_tbl wsX11_all := (gi_cons pw_513 (goodIn_app (goodIn_app gM_X11_all_r1 (goodIn_app gM_X11_all_r2 (goodIn_app gM_X11_all_r3 gM_X11_all_r4))) gc_X11))
set_option maxRecDepth 100000 in
theorem gM_X8_ended : GoodIn lw_tbl wsX8_ended := (gi_cons pw_536 (goodIn_app (goodIn_app (gi_cons pw_438 (gi_cons pw_540 (gi_cons pw_539 (gi_cons pw_538 (gi_cons pw_461 (gi_cons pw_537 (gi_cons pw_502 (gi_cons pw_503 gi_nil)))))))) gc_X8) gc_X5))
set_option maxRecDepth 100000 in
theorem gM_X11_ended : GoodIn lw_tbl wsX11_ended := (gi_cons pw_541 (goodIn_app (gi_cons pw_25 (gi_cons pw_522 (gi_cons pw_517 (gi_cons pw_43 (gi_cons pw_42 (gi_cons pw_20 (gi_cons pw_41 gi_nil))))))) gc_X11))
set_option maxRecDepth 100000 in
theorem gM_X8_allOf : GoodIn lw_tbl wsX8_allOf := (gi_cons pw_542 (goodIn_app (goodIn_app (gi_cons pw_438 (gi_cons pw_546 (gi_cons pw_545 (gi_cons pw_544 (gi_cons pw_461 (gi_cons pw_543 (gi_cons pw_502 (gi_cons pw_500 (gi_cons pw_498 (gi_cons pw_497 (gi_cons pw_499 (gi_cons pw_495 (gi_cons pw_494 (gi_cons pw_496 gi_nil)))))))))))))) gc_X8) gc_X5))
set_option maxRecDepth 100000 in
theorem gM_X11_allOf : GoodIn lw_tbl wsX11_allOf := (gi_cons pw_547 (goodIn_app (gi_cons pw_25 (gi_cons pw_522 (gi_cons pw_516 (gi_cons pw_43 (gi_cons pw_42 (gi_cons pw_20 (gi_cons pw_41 gi_nil))))))) gc_X11))
set_option maxRecDepth 100000 in
theorem gM_X8_idle_r1 : GoodIn lw_tbl wsX8_idle_r1 := (gi_cons pw_11 (gi_cons pw_278 (gi_cons pw_277 (gi_cons pw_276 (gi_cons pw_33 (gi_cons pw_275 (gi_cons pw_274 (gi_cons pw_273 (gi_cons pw_272 (gi_cons pw_271 (gi_cons pw_270 (gi_cons pw_203 (gi_cons pw_557 (gi_cons pw_556 (gi_cons pw_555 (gi_cons pw_554 (gi_cons pw_553 (gi_cons pw_552 (gi_cons pw_551 (gi_cons pw_550 (gi_cons pw_549 (gi_cons pw_358 (gi_cons pw_287 (gi_cons pw_286 gi_nil))))))))))))))))))))))))
set_option maxRecDepth 100000 in
theorem gM_X8_idle_r2 : GoodIn lw_tbl wsX8_idle_r2 := (gi_cons pw_285 (gi_cons pw_159 (gi_cons pw_558 (gi_cons pw_445 (gi_cons pw_444 (gi_cons pw_443 (gi_cons pw_442 (gi_cons pw_441 (gi_cons pw_440 gi_nil)))))))))
set_option maxRecDepth 100000 in
theorem gM_X8_idle : GoodIn lw_tbl wsX8_idle := (gi_cons pw_548 (goodIn_app (goodIn_app (goodIn_app gM_X8_idle_r1 gM_X8_idle_r2) gc_X8) gc_X7))
set_option maxRecDepth 100000 in
theorem gM_X11_idle : GoodIn lw_tbl wsX11_idle := (gi_cons pw_559 (goodIn_app (gi_cons pw_25 (gi_cons pw_212 (gi_cons pw_564 (gi_cons pw_283 (gi_cons pw_282 (gi_cons pw_281 (gi_cons pw_20 (gi_cons pw_280 (gi_cons pw_217 (gi_cons pw_563 (gi_cons pw_562 (gi_cons pw_561 (gi_cons pw_560 (gi_cons pw_209 (gi_cons pw_208 (gi_cons pw_206 (gi_cons pw_207 gi_nil))))))))))))))))) gc_X11))
set_option maxRecDepth 100000 in
theorem gM_X8_look_r1 : GoodIn lw_tbl wsX8_look_r1 := (gi_cons pw_11 (gi_cons pw_292 (gi_cons pw_291 (gi_cons pw_290 (gi_cons pw_7 (gi_cons pw_289 (gi_cons pw_278 (gi_cons pw_277 (gi_cons pw_276 (gi_cons pw_33 (gi_cons pw_275 (gi_cons pw_274 (gi_cons pw_273 (gi_cons pw_272 (gi_cons pw_271 (gi_cons pw_270 (gi_cons pw_203 (gi_cons pw_557 (gi_cons pw_556 (gi_cons pw_555 (gi_cons pw_554 (gi_cons pw_553 (gi_cons pw_552 (gi_cons pw_551 gi_nil))))))))))))))))))))))))
set_option maxRecDepth 100000 in
theorem gM_X8_look_r2 : GoodIn lw_tbl wsX8_look_r2 := (gi_cons pw_550 (gi_cons pw_549 (gi_cons pw_358 (gi_cons pw_287 (gi_cons pw_286 (gi_cons pw_285 (gi_cons pw_159 (gi_cons pw_578 (gi_cons pw_577 (gi_cons pw_576 (gi_cons pw_575 (gi_cons pw_574 (gi_cons pw_361 (gi_cons pw_360 (gi_cons pw_359 (gi_cons pw_573 (gi_cons pw_572 (gi_cons pw_571 (gi_cons pw_570 (gi_cons pw_474 (gi_cons pw_569 (gi_cons pw_568 (gi_cons pw_567 (gi_cons pw_566 gi_nil))))))))))))))))))))))))
set_option maxRecDepth 100000 in
theorem gM_X8_look_r3 : GoodIn lw_tbl wsX8_look_r3 := (gi_cons pw_31 gi_nil)
set_option maxRecDepth 100000 in
theorem gM_X8_look : GoodIn lw_tbl wsX8_look := (gi_cons pw_565 (goodIn_app (goodIn_app (goodIn_app gM_X8_look_r1 (goodIn_app gM_X8_look_r2 gM_X8_look_r3)) gc_X8) gc_X7))
set_option maxRecDepth 100000 in
theorem gM_X11_look : GoodIn lw_tbl wsX11_look := (gi_cons pw_579 (goodIn_app (gi_cons pw_25 (gi_cons pw_212 (gi_cons pw_209 (gi_cons pw_206 (gi_cons pw_564 (gi_cons pw_283 (gi_cons pw_282 (gi_cons pw_281 (gi_cons pw_20 (gi_cons pw_280 (gi_cons pw_217 (gi_cons pw_563 (gi_cons pw_562 (gi_cons pw_561 (gi_cons pw_560 (gi_cons pw_208 (gi_cons pw_207 (gi_cons pw_406 (gi_cons pw_405 (gi_cons pw_404 (gi_cons pw_403 (gi_cons pw_45 (gi_cons pw_44 gi_nil))))))))))))))))))))))) gc_X11))
set_option maxRecDepth 100000 in
theorem gM_X8_mends_r1 : GoodIn lw_tbl wsX8_mends_r1 := (gi_cons pw_438 (gi_cons pw_585 (gi_cons pw_11 (gi_cons pw_10 (gi_cons pw_9 (gi_cons pw_8 (gi_cons pw_7 (gi_cons pw_6 (gi_cons pw_5 (gi_cons pw_584 (gi_cons pw_583 (gi_cons pw_582 (gi_cons pw_581 (gi_cons pw_273 (gi_cons pw_272 (gi_cons pw_271 (gi_cons pw_33 (gi_cons pw_270 (gi_cons pw_203 (gi_cons pw_288 (gi_cons pw_287 (gi_cons pw_286 (gi_cons pw_285 (gi_cons pw_159 gi_nil))))))))))))))))))))))))
set_option maxRecDepth 100000 in
theorem gM_X8_mends_r2 : GoodIn lw_tbl wsX8_mends_r2 := (gi_cons pw_595 (gi_cons pw_568 (gi_cons pw_567 (gi_cons pw_566 (gi_cons pw_31 (gi_cons pw_558 (gi_cons pw_445 (gi_cons pw_444 (gi_cons pw_443 (gi_cons pw_442 (gi_cons pw_441 (gi_cons pw_440 (gi_cons pw_594 (gi_cons pw_593 (gi_cons pw_592 (gi_cons pw_591 (gi_cons pw_590 (gi_cons pw_589 (gi_cons pw_588 (gi_cons pw_587 (gi_cons pw_586 (gi_cons pw_4 (gi_cons pw_3 (gi_cons pw_2 gi_nil))))))))))))))))))))))))
set_option maxRecDepth 100000 in
theorem gM_X8_mends_r3 : GoodIn lw_tbl wsX8_mends_r3 := (gi_cons pw_1 (gi_cons pw_604 (gi_cons pw_603 (gi_cons pw_602 (gi_cons pw_601 (gi_cons pw_600 (gi_cons pw_162 (gi_cons pw_161 (gi_cons pw_160 (gi_cons pw_599 (gi_cons pw_598 (gi_cons pw_597 (gi_cons pw_596 (gi_cons pw_492 (gi_cons pw_491 (gi_cons pw_490 (gi_cons pw_461 (gi_cons pw_489 (gi_cons pw_488 (gi_cons pw_487 (gi_cons pw_486 (gi_cons pw_485 (gi_cons pw_484 (gi_cons pw_437 gi_nil))))))))))))))))))))))))
set_option maxRecDepth 100000 in
theorem gM_X8_mends_r4 : GoodIn lw_tbl wsX8_mends_r4 := (gi_cons pw_301 (gi_cons pw_300 (gi_cons pw_299 (gi_cons pw_298 (gi_cons pw_297 (gi_cons pw_296 (gi_cons pw_295 (gi_cons pw_326 (gi_cons pw_325 (gi_cons pw_324 (gi_cons pw_323 (gi_cons pw_322 (gi_cons pw_321 (gi_cons pw_320 (gi_cons pw_319 (gi_cons pw_318 (gi_cons pw_317 (gi_cons pw_316 (gi_cons pw_315 (gi_cons pw_314 (gi_cons pw_313 (gi_cons pw_312 (gi_cons pw_311 (gi_cons pw_310 gi_nil))))))))))))))))))))))))
set_option maxRecDepth 100000 in
theorem gM_X8_mends_r5 : GoodIn lw_tbl wsX8_mends_r5 := (gi_cons pw_309 (gi_cons pw_308 (gi_cons pw_307 (gi_cons pw_306 (gi_cons pw_305 (gi_cons pw_304 (gi_cons pw_303 (gi_cons pw_346 (gi_cons pw_345 (gi_cons pw_344 (gi_cons pw_343 (gi_cons pw_342 (gi_cons pw_341 (gi_cons pw_340 (gi_cons pw_339 (gi_cons pw_338 (gi_cons pw_337 (gi_cons pw_336 (gi_cons pw_335 (gi_cons pw_334 (gi_cons pw_333 (gi_cons pw_332 (gi_cons pw_331 (gi_cons pw_330 gi_nil))))))))))))))))))))))))
set_option maxRecDepth 100000 in
theorem gM_X8_mends_r6 : GoodIn lw_tbl wsX8_mends_r6 := (gi_cons pw_329 (gi_cons pw_328 (gi_cons pw_327 (gi_cons pw_366 (gi_cons pw_365 (gi_cons pw_364 (gi_cons pw_363 (gi_cons pw_362 (gi_cons pw_361 (gi_cons pw_360 (gi_cons pw_359 (gi_cons pw_358 (gi_cons pw_357 (gi_cons pw_356 (gi_cons pw_355 (gi_cons pw_354 (gi_cons pw_353 (gi_cons pw_352 (gi_cons pw_351 (gi_cons pw_350 (gi_cons pw_349 (gi_cons pw_348 (gi_cons pw_347 (gi_cons pw_371 gi_nil))))))))))))))))))))))))
set_option maxRecDepth 100000 in
theorem gM_X8_mends_r7 : GoodIn lw_tbl wsX8_mends_r7 := (gi_cons pw_370 (gi_cons pw_369 (gi_cons pw_368 (gi_cons pw_367 (gi_cons pw_612 (gi_cons pw_611 (gi_cons pw_610 (gi_cons pw_609 (gi_cons pw_608 (gi_cons pw_607 (gi_cons pw_606 (gi_cons pw_605 (gi_cons pw_36 (gi_cons pw_35 (gi_cons pw_34 (gi_cons pw_32 gi_nil))))))))))))))))
set_option maxRecDepth 100000 in
theorem gM_X8_mends : GoodIn lw_tbl wsX8_mends := (gi_cons pw_580 (goodIn_app (goodIn_app (goodIn_app (goodIn_app (goodIn_app (goodIn_app (goodIn_app gM_X8_mends_r1 (goodIn_app gM_X8_mends_r2 (goodIn_app gM_X8_mends_r3 (goodIn_app gM_X8_mends_r4 (goodIn_app gM_X8_mends_r5 (goodIn_app gM_X8_mends_r6 gM_X8_mends_r7)))))) gc_X8) gc_X5) gc_X7) gc_X1) gc_X6) gc_X3))
set_option maxRecDepth 100000 in
theorem gM_X11_mends_r1 : GoodIn lw_tbl wsX11_mends_r1 := (gi_cons pw_25 (gi_cons pw_522 (gi_cons pw_212 (gi_cons pw_521 (gi_cons pw_209 (gi_cons pw_45 (gi_cons pw_44 (gi_cons pw_518 (gi_cons pw_519 (gi_cons pw_615 (gi_cons pw_208 (gi_cons pw_207 (gi_cons pw_206 (gi_cons pw_614 (gi_cons pw_23 (gi_cons pw_22 (gi_cons pw_21 (gi_cons pw_20 (gi_cons pw_19 (gi_cons pw_18 (gi_cons pw_17 (gi_cons pw_529 (gi_cons pw_528 (gi_cons pw_527 gi_nil))))))))))))))))))))))))
set_option maxRecDepth 100000 in
theorem gM_X11_mends_r2 : GoodIn lw_tbl wsX11_mends_r2 := (gi_cons pw_623 (gi_cons pw_622 (gi_cons pw_621 (gi_cons pw_620 (gi_cons pw_619 (gi_cons pw_618 (gi_cons pw_617 (gi_cons pw_616 (gi_cons pw_515 (gi_cons pw_526 (gi_cons pw_525 (gi_cons pw_524 (gi_cons pw_523 (gi_cons pw_395 (gi_cons pw_394 (gi_cons pw_393 (gi_cons pw_392 (gi_cons pw_391 (gi_cons pw_378 (gi_cons pw_382 (gi_cons pw_380 (gi_cons pw_390 (gi_cons pw_376 (gi_cons pw_373 gi_nil))))))))))))))))))))))))
set_option maxRecDepth 100000 in
theorem gM_X11_mends_r3 : GoodIn lw_tbl wsX11_mends_r3 := (gi_cons pw_389 (gi_cons pw_259 (gi_cons pw_388 (gi_cons pw_387 (gi_cons pw_386 (gi_cons pw_385 (gi_cons pw_24 (gi_cons pw_414 (gi_cons pw_413 (gi_cons pw_412 (gi_cons pw_411 (gi_cons pw_48 (gi_cons pw_410 (gi_cons pw_409 (gi_cons pw_408 (gi_cons pw_407 (gi_cons pw_28 (gi_cons pw_406 (gi_cons pw_405 (gi_cons pw_404 (gi_cons pw_403 (gi_cons pw_402 (gi_cons pw_401 (gi_cons pw_400 gi_nil))))))))))))))))))))))))
set_option maxRecDepth 100000 in
theorem gM_X11_mends_r4 : GoodIn lw_tbl wsX11_mends_r4 := (gi_cons pw_399 (gi_cons pw_628 (gi_cons pw_627 (gi_cons pw_626 (gi_cons pw_625 (gi_cons pw_624 (gi_cons pw_16 (gi_cons pw_15 (gi_cons pw_14 (gi_cons pw_13 gi_nil))))))))))
set_option maxRecDepth 100000 in
theorem gM_X11_mends : GoodIn lw_tbl wsX11_mends := (gi_cons pw_613 (goodIn_app (goodIn_app gM_X11_mends_r1 (goodIn_app gM_X11_mends_r2 (goodIn_app gM_X11_mends_r3 gM_X11_mends_r4))) gc_X11))
set_option maxRecDepth 100000 in
theorem gM_X8_mend : GoodIn lw_tbl wsX8_mend := (gi_cons pw_629 (goodIn_app (goodIn_app (gi_cons pw_585 (gi_cons pw_633 (gi_cons pw_632 (gi_cons pw_631 (gi_cons pw_591 (gi_cons pw_630 (gi_cons pw_588 (gi_cons pw_587 (gi_cons pw_586 gi_nil))))))))) gc_X8) gc_X1))
set_option maxRecDepth 100000 in
theorem gM_X11_mend : GoodIn lw_tbl wsX11_mend := (gi_cons pw_634 (goodIn_app (gi_cons pw_25 (gi_cons pw_614 (gi_cons pw_624 (gi_cons pw_43 (gi_cons pw_42 (gi_cons pw_20 (gi_cons pw_41 gi_nil))))))) gc_X11))
set_option maxRecDepth 100000 in
theorem gM_X8_nights_r1 : GoodIn lw_tbl wsX8_nights_r1 := (gi_cons pw_11 (gi_cons pw_641 (gi_cons pw_640 (gi_cons pw_301 (gi_cons pw_639 (gi_cons pw_638 (gi_cons pw_637 (gi_cons pw_636 (gi_cons pw_278 (gi_cons pw_277 (gi_cons pw_276 (gi_cons pw_33 (gi_cons pw_275 (gi_cons pw_274 (gi_cons pw_10 (gi_cons pw_9 (gi_cons pw_8 (gi_cons pw_7 (gi_cons pw_6 (gi_cons pw_5 (gi_cons pw_39 (gi_cons pw_38 (gi_cons pw_37 (gi_cons pw_300 gi_nil))))))))))))))))))))))))
set_option maxRecDepth 100000 in
theorem gM_X8_nights_r2 : GoodIn lw_tbl wsX8_nights_r2 := (gi_cons pw_299 (gi_cons pw_298 (gi_cons pw_297 (gi_cons pw_296 (gi_cons pw_295 (gi_cons pw_326 (gi_cons pw_325 (gi_cons pw_324 (gi_cons pw_323 (gi_cons pw_322 (gi_cons pw_321 (gi_cons pw_320 (gi_cons pw_319 (gi_cons pw_318 (gi_cons pw_317 (gi_cons pw_316 (gi_cons pw_315 (gi_cons pw_314 (gi_cons pw_313 (gi_cons pw_312 (gi_cons pw_311 (gi_cons pw_310 (gi_cons pw_309 (gi_cons pw_308 gi_nil))))))))))))))))))))))))
set_option maxRecDepth 100000 in
theorem gM_X8_nights_r3 : GoodIn lw_tbl wsX8_nights_r3 := (gi_cons pw_307 (gi_cons pw_306 (gi_cons pw_305 (gi_cons pw_304 (gi_cons pw_303 (gi_cons pw_346 (gi_cons pw_345 (gi_cons pw_344 (gi_cons pw_343 (gi_cons pw_342 (gi_cons pw_341 (gi_cons pw_340 (gi_cons pw_339 (gi_cons pw_338 (gi_cons pw_337 (gi_cons pw_336 (gi_cons pw_335 (gi_cons pw_334 (gi_cons pw_287 (gi_cons pw_286 (gi_cons pw_285 (gi_cons pw_159 (gi_cons pw_333 (gi_cons pw_332 gi_nil))))))))))))))))))))))))
set_option maxRecDepth 100000 in
theorem gM_X8_nights_r4 : GoodIn lw_tbl wsX8_nights_r4 := (gi_cons pw_331 (gi_cons pw_330 (gi_cons pw_329 (gi_cons pw_328 (gi_cons pw_327 (gi_cons pw_366 (gi_cons pw_365 (gi_cons pw_364 (gi_cons pw_363 (gi_cons pw_272 (gi_cons pw_271 (gi_cons pw_270 (gi_cons pw_203 (gi_cons pw_362 (gi_cons pw_361 (gi_cons pw_360 (gi_cons pw_359 (gi_cons pw_358 (gi_cons pw_357 (gi_cons pw_356 (gi_cons pw_355 (gi_cons pw_354 (gi_cons pw_353 (gi_cons pw_352 gi_nil))))))))))))))))))))))))
set_option maxRecDepth 100000 in
theorem gM_X8_nights_r5 : GoodIn lw_tbl wsX8_nights_r5 := (gi_cons pw_351 (gi_cons pw_350 (gi_cons pw_349 (gi_cons pw_348 (gi_cons pw_347 (gi_cons pw_371 (gi_cons pw_370 (gi_cons pw_369 (gi_cons pw_368 (gi_cons pw_367 (gi_cons pw_4 (gi_cons pw_3 (gi_cons pw_2 (gi_cons pw_1 gi_nil))))))))))))))
set_option maxRecDepth 100000 in
theorem gM_X8_nights : GoodIn lw_tbl wsX8_nights := (gi_cons pw_635 (goodIn_app (goodIn_app (goodIn_app (goodIn_app (goodIn_app gM_X8_nights_r1 (goodIn_app gM_X8_nights_r2 (goodIn_app gM_X8_nights_r3 (goodIn_app gM_X8_nights_r4 gM_X8_nights_r5)))) gc_X8) gc_X6) gc_X7) gc_X3))
set_option maxRecDepth 100000 in
theorem gM_X11_nights_r1 : GoodIn lw_tbl wsX11_nights_r1 := (gi_cons pw_25 (gi_cons pw_391 (gi_cons pw_648 (gi_cons pw_647 (gi_cons pw_646 (gi_cons pw_389 (gi_cons pw_645 (gi_cons pw_644 (gi_cons pw_643 (gi_cons pw_638 (gi_cons pw_637 (gi_cons pw_636 (gi_cons pw_283 (gi_cons pw_282 (gi_cons pw_281 (gi_cons pw_20 (gi_cons pw_280 (gi_cons pw_217 (gi_cons pw_23 (gi_cons pw_22 (gi_cons pw_21 (gi_cons pw_19 (gi_cons pw_18 (gi_cons pw_17 gi_nil))))))))))))))))))))))))
set_option maxRecDepth 100000 in
theorem gM_X11_nights_r2 : GoodIn lw_tbl wsX11_nights_r2 := (gi_cons pw_398 (gi_cons pw_397 (gi_cons pw_396 (gi_cons pw_43 (gi_cons pw_42 (gi_cons pw_41 (gi_cons pw_388 (gi_cons pw_387 (gi_cons pw_386 (gi_cons pw_385 (gi_cons pw_24 (gi_cons pw_661 (gi_cons pw_660 (gi_cons pw_659 (gi_cons pw_658 (gi_cons pw_657 (gi_cons pw_656 (gi_cons pw_655 (gi_cons pw_654 (gi_cons pw_653 (gi_cons pw_652 (gi_cons pw_651 (gi_cons pw_650 (gi_cons pw_649 gi_nil))))))))))))))))))))))))
set_option maxRecDepth 100000 in
theorem gM_X11_nights_r3 : GoodIn lw_tbl wsX11_nights_r3 := (gi_cons pw_678 (gi_cons pw_677 (gi_cons pw_676 (gi_cons pw_675 (gi_cons pw_674 (gi_cons pw_209 (gi_cons pw_402 (gi_cons pw_401 (gi_cons pw_400 (gi_cons pw_399 (gi_cons pw_208 (gi_cons pw_673 (gi_cons pw_672 (gi_cons pw_671 (gi_cons pw_670 (gi_cons pw_669 (gi_cons pw_668 (gi_cons pw_667 (gi_cons pw_666 (gi_cons pw_212 (gi_cons pw_665 (gi_cons pw_664 (gi_cons pw_663 (gi_cons pw_662 gi_nil))))))))))))))))))))))))
set_option maxRecDepth 100000 in
theorem gM_X11_nights_r4 : GoodIn lw_tbl wsX11_nights_r4 := (gi_cons pw_206 (gi_cons pw_207 (gi_cons pw_414 (gi_cons pw_413 (gi_cons pw_412 (gi_cons pw_411 (gi_cons pw_48 (gi_cons pw_410 (gi_cons pw_409 (gi_cons pw_408 (gi_cons pw_407 (gi_cons pw_28 (gi_cons pw_688 (gi_cons pw_687 (gi_cons pw_686 (gi_cons pw_685 (gi_cons pw_684 (gi_cons pw_683 (gi_cons pw_682 (gi_cons pw_681 (gi_cons pw_680 (gi_cons pw_679 (gi_cons pw_45 (gi_cons pw_44 gi_nil))))))))))))))))))))))))
set_option maxRecDepth 100000 in
theorem gM_X11_nights_r5 : GoodIn lw_tbl wsX11_nights_r5 := (gi_cons pw_259 (gi_cons pw_406 (gi_cons pw_405 (gi_cons pw_404 (gi_cons pw_403 (gi_cons pw_16 (gi_cons pw_15 (gi_cons pw_14 (gi_cons pw_13 gi_nil)))))))))
set_option maxRecDepth 100000 in
theorem gM_X11_nights : GoodIn lw_tbl wsX11_nights := (gi_cons pw_642 (goodIn_app (goodIn_app (goodIn_app gM_X11_nights_r1 (goodIn_app gM_X11_nights_r2 (goodIn_app gM_X11_nights_r3 (goodIn_app gM_X11_nights_r4 gM_X11_nights_r5)))) gc_X11) gc_X9))
set_option maxRecDepth 100000 in
theorem gM_X8_night : GoodIn lw_tbl wsX8_night := (gi_cons pw_689 (goodIn_app (goodIn_app (gi_cons pw_640 (gi_cons pw_641 gi_nil)) gc_X8) gc_X6))
set_option maxRecDepth 100000 in
theorem gM_X11_night : GoodIn lw_tbl wsX11_night := (gi_cons pw_690 (goodIn_app (goodIn_app (gi_cons pw_25 (gi_cons pw_644 (gi_cons pw_646 (gi_cons pw_647 gi_nil)))) gc_X11) gc_X9))
set_option maxRecDepth 100000 in
theorem gM_X8_log : GoodIn lw_tbl wsX8_log := (gi_cons pw_691 (goodIn_app (goodIn_app (gi_cons pw_703 (gi_cons pw_10 (gi_cons pw_9 (gi_cons pw_8 (gi_cons pw_7 (gi_cons pw_6 (gi_cons pw_5 (gi_cons pw_702 (gi_cons pw_701 (gi_cons pw_700 (gi_cons pw_699 (gi_cons pw_698 (gi_cons pw_697 (gi_cons pw_696 (gi_cons pw_695 (gi_cons pw_694 (gi_cons pw_693 (gi_cons pw_692 (gi_cons pw_4 (gi_cons pw_3 (gi_cons pw_2 (gi_cons pw_1 gi_nil)))))))))))))))))))))) gc_X8) gc_X2))
set_option maxRecDepth 100000 in
theorem gM_X11_log : GoodIn lw_tbl wsX11_log := (gi_cons pw_704 (goodIn_app (gi_cons pw_25 (gi_cons pw_706 (gi_cons pw_705 (gi_cons pw_43 (gi_cons pw_42 (gi_cons pw_20 (gi_cons pw_41 (gi_cons pw_23 (gi_cons pw_22 (gi_cons pw_21 (gi_cons pw_19 (gi_cons pw_18 (gi_cons pw_17 (gi_cons pw_16 (gi_cons pw_15 (gi_cons pw_14 (gi_cons pw_13 gi_nil))))))))))))))))) gc_X11))
set_option maxRecDepth 100000 in
theorem gM_X8_clear : GoodIn lw_tbl wsX8_clear := (gi_cons pw_707 (goodIn_app (goodIn_app (gi_cons pw_703 gi_nil) gc_X8) gc_X2))
set_option maxRecDepth 100000 in
theorem gM_X11_clear : GoodIn lw_tbl wsX11_clear := (gi_cons pw_708 (goodIn_app (gi_cons pw_25 (gi_cons pw_706 gi_nil)) gc_X11))
set_option maxRecDepth 100000 in
theorem gM_X8_laid_r1 : GoodIn lw_tbl wsX8_laid_r1 := (gi_cons pw_703 (gi_cons pw_302 (gi_cons pw_423 (gi_cons pw_422 (gi_cons pw_421 (gi_cons pw_7 (gi_cons pw_420 (gi_cons pw_10 (gi_cons pw_9 (gi_cons pw_8 (gi_cons pw_6 (gi_cons pw_5 (gi_cons pw_718 (gi_cons pw_717 (gi_cons pw_716 (gi_cons pw_699 (gi_cons pw_715 (gi_cons pw_714 (gi_cons pw_713 (gi_cons pw_637 (gi_cons pw_712 (gi_cons pw_711 (gi_cons pw_697 (gi_cons pw_710 gi_nil))))))))))))))))))))))))
set_option maxRecDepth 100000 in
theorem gM_X8_laid_r2 : GoodIn lw_tbl wsX8_laid_r2 := (gi_cons pw_726 (gi_cons pw_725 (gi_cons pw_344 (gi_cons pw_314 (gi_cons pw_343 (gi_cons pw_724 (gi_cons pw_428 (gi_cons pw_427 (gi_cons pw_297 (gi_cons pw_426 (gi_cons pw_318 (gi_cons pw_364 (gi_cons pw_723 (gi_cons pw_722 (gi_cons pw_721 (gi_cons pw_720 (gi_cons pw_696 (gi_cons pw_719 (gi_cons pw_638 (gi_cons pw_636 (gi_cons pw_4 (gi_cons pw_3 (gi_cons pw_2 (gi_cons pw_1 gi_nil))))))))))))))))))))))))
set_option maxRecDepth 100000 in
theorem gM_X8_laid : GoodIn lw_tbl wsX8_laid := (gi_cons pw_709 (goodIn_app (goodIn_app (goodIn_app (goodIn_app gM_X8_laid_r1 gM_X8_laid_r2) gc_X8) gc_X6) gc_X2))
set_option maxRecDepth 100000 in
theorem gM_X11_laid_r1 : GoodIn lw_tbl wsX11_laid_r1 := (gi_cons pw_25 (gi_cons pw_383 (gi_cons pw_379 (gi_cons pw_732 (gi_cons pw_713 (gi_cons pw_637 (gi_cons pw_712 (gi_cons pw_706 (gi_cons pw_731 (gi_cons pw_730 (gi_cons pw_705 (gi_cons pw_374 (gi_cons pw_643 (gi_cons pw_638 (gi_cons pw_636 (gi_cons pw_729 (gi_cons pw_728 (gi_cons pw_23 (gi_cons pw_22 (gi_cons pw_21 (gi_cons pw_20 (gi_cons pw_19 (gi_cons pw_18 (gi_cons pw_17 gi_nil))))))))))))))))))))))))
set_option maxRecDepth 100000 in
theorem gM_X11_laid_r2 : GoodIn lw_tbl wsX11_laid_r2 := (gi_cons pw_16 (gi_cons pw_15 (gi_cons pw_14 (gi_cons pw_13 gi_nil))))
set_option maxRecDepth 100000 in
theorem gM_X11_laid : GoodIn lw_tbl wsX11_laid := (gi_cons pw_727 (goodIn_app (goodIn_app gM_X11_laid_r1 gM_X11_laid_r2) gc_X11))
set_option maxRecDepth 100000 in
theorem gM_X8_apart : GoodIn lw_tbl wsX8_apart := (gi_cons pw_733 (goodIn_app (goodIn_app (gi_cons pw_703 gi_nil) gc_X8) gc_X2))
set_option maxRecDepth 100000 in
theorem gM_X11_apart : GoodIn lw_tbl wsX11_apart := (gi_cons pw_734 (goodIn_app (gi_cons pw_25 (gi_cons pw_728 (gi_cons pw_729 gi_nil))) gc_X11))
set_option maxRecDepth 100000 in
theorem gM_X8_differ_r1 : GoodIn lw_tbl wsX8_differ_r1 := (gi_cons pw_11 (gi_cons pw_439 (gi_cons pw_736 (gi_cons pw_278 (gi_cons pw_277 (gi_cons pw_276 (gi_cons pw_33 (gi_cons pw_275 (gi_cons pw_274 (gi_cons pw_10 (gi_cons pw_9 (gi_cons pw_8 (gi_cons pw_7 (gi_cons pw_6 (gi_cons pw_5 (gi_cons pw_39 (gi_cons pw_38 (gi_cons pw_37 (gi_cons pw_436 (gi_cons pw_435 (gi_cons pw_434 (gi_cons pw_433 (gi_cons pw_432 (gi_cons pw_459 gi_nil))))))))))))))))))))))))
set_option maxRecDepth 100000 in
theorem gM_X8_differ_r2 : GoodIn lw_tbl wsX8_differ_r2 := (gi_cons pw_458 (gi_cons pw_457 (gi_cons pw_456 (gi_cons pw_455 (gi_cons pw_454 (gi_cons pw_453 (gi_cons pw_452 (gi_cons pw_451 (gi_cons pw_450 (gi_cons pw_311 (gi_cons pw_310 (gi_cons pw_309 (gi_cons pw_308 (gi_cons pw_449 (gi_cons pw_448 (gi_cons pw_447 (gi_cons pw_446 (gi_cons pw_445 (gi_cons pw_444 (gi_cons pw_443 (gi_cons pw_442 (gi_cons pw_441 (gi_cons pw_440 (gi_cons pw_483 gi_nil))))))))))))))))))))))))
set_option maxRecDepth 100000 in
theorem gM_X8_differ_r3 : GoodIn lw_tbl wsX8_differ_r3 := (gi_cons pw_482 (gi_cons pw_481 (gi_cons pw_480 (gi_cons pw_479 (gi_cons pw_478 (gi_cons pw_477 (gi_cons pw_476 (gi_cons pw_475 (gi_cons pw_474 (gi_cons pw_473 (gi_cons pw_472 (gi_cons pw_471 (gi_cons pw_470 (gi_cons pw_469 (gi_cons pw_468 (gi_cons pw_467 (gi_cons pw_466 (gi_cons pw_465 (gi_cons pw_740 (gi_cons pw_739 (gi_cons pw_738 (gi_cons pw_737 (gi_cons pw_437 (gi_cons pw_487 gi_nil))))))))))))))))))))))))
set_option maxRecDepth 100000 in
theorem gM_X8_differ_r4 : GoodIn lw_tbl wsX8_differ_r4 := (gi_cons pw_486 (gi_cons pw_485 (gi_cons pw_484 (gi_cons pw_301 (gi_cons pw_300 (gi_cons pw_299 (gi_cons pw_298 (gi_cons pw_297 (gi_cons pw_296 (gi_cons pw_295 (gi_cons pw_326 (gi_cons pw_325 (gi_cons pw_324 (gi_cons pw_323 (gi_cons pw_322 (gi_cons pw_321 (gi_cons pw_320 (gi_cons pw_319 (gi_cons pw_318 (gi_cons pw_317 (gi_cons pw_316 (gi_cons pw_315 (gi_cons pw_314 (gi_cons pw_313 gi_nil))))))))))))))))))))))))
set_option maxRecDepth 100000 in
theorem gM_X8_differ_r5 : GoodIn lw_tbl wsX8_differ_r5 := (gi_cons pw_312 (gi_cons pw_307 (gi_cons pw_306 (gi_cons pw_305 (gi_cons pw_304 (gi_cons pw_303 (gi_cons pw_346 (gi_cons pw_345 (gi_cons pw_344 (gi_cons pw_343 (gi_cons pw_342 (gi_cons pw_341 (gi_cons pw_340 (gi_cons pw_339 (gi_cons pw_338 (gi_cons pw_337 (gi_cons pw_336 (gi_cons pw_335 (gi_cons pw_334 (gi_cons pw_287 (gi_cons pw_286 (gi_cons pw_285 (gi_cons pw_159 (gi_cons pw_333 gi_nil))))))))))))))))))))))))
set_option maxRecDepth 100000 in
theorem gM_X8_differ_r6 : GoodIn lw_tbl wsX8_differ_r6 := (gi_cons pw_332 (gi_cons pw_331 (gi_cons pw_330 (gi_cons pw_329 (gi_cons pw_328 (gi_cons pw_327 (gi_cons pw_366 (gi_cons pw_365 (gi_cons pw_364 (gi_cons pw_363 (gi_cons pw_272 (gi_cons pw_271 (gi_cons pw_270 (gi_cons pw_203 (gi_cons pw_362 (gi_cons pw_361 (gi_cons pw_360 (gi_cons pw_359 (gi_cons pw_358 (gi_cons pw_357 (gi_cons pw_356 (gi_cons pw_355 (gi_cons pw_354 (gi_cons pw_353 gi_nil))))))))))))))))))))))))
set_option maxRecDepth 100000 in
theorem gM_X8_differ_r7 : GoodIn lw_tbl wsX8_differ_r7 := (gi_cons pw_352 (gi_cons pw_351 (gi_cons pw_350 (gi_cons pw_349 (gi_cons pw_348 (gi_cons pw_347 (gi_cons pw_371 (gi_cons pw_370 (gi_cons pw_369 (gi_cons pw_368 (gi_cons pw_367 (gi_cons pw_4 (gi_cons pw_3 (gi_cons pw_2 (gi_cons pw_1 gi_nil)))))))))))))))
set_option maxRecDepth 100000 in
theorem gM_X8_differ : GoodIn lw_tbl wsX8_differ := (gi_cons pw_735 (goodIn_app (goodIn_app (goodIn_app (goodIn_app (goodIn_app (goodIn_app gM_X8_differ_r1 (goodIn_app gM_X8_differ_r2 (goodIn_app gM_X8_differ_r3 (goodIn_app gM_X8_differ_r4 (goodIn_app gM_X8_differ_r5 (goodIn_app gM_X8_differ_r6 gM_X8_differ_r7)))))) gc_X8) gc_X7) gc_X0) gc_X6) gc_X3))
set_option maxRecDepth 100000 in
theorem gM_X11_differ_r1 : GoodIn lw_tbl wsX11_differ_r1 := (gi_cons pw_25 (gi_cons pw_520 (gi_cons pw_514 (gi_cons pw_382 (gi_cons pw_283 (gi_cons pw_282 (gi_cons pw_281 (gi_cons pw_20 (gi_cons pw_280 (gi_cons pw_217 (gi_cons pw_23 (gi_cons pw_22 (gi_cons pw_21 (gi_cons pw_19 (gi_cons pw_18 (gi_cons pw_17 (gi_cons pw_43 (gi_cons pw_42 (gi_cons pw_41 (gi_cons pw_535 (gi_cons pw_534 (gi_cons pw_533 (gi_cons pw_532 (gi_cons pw_45 gi_nil))))))))))))))))))))))))
set_option maxRecDepth 100000 in
theorem gM_X11_differ_r2 : GoodIn lw_tbl wsX11_differ_r2 := (gi_cons pw_29 (gi_cons pw_531 (gi_cons pw_530 (gi_cons pw_388 (gi_cons pw_387 (gi_cons pw_386 (gi_cons pw_385 (gi_cons pw_24 (gi_cons pw_529 (gi_cons pw_528 (gi_cons pw_527 (gi_cons pw_526 (gi_cons pw_525 (gi_cons pw_524 (gi_cons pw_523 (gi_cons pw_395 (gi_cons pw_394 (gi_cons pw_393 (gi_cons pw_392 (gi_cons pw_391 (gi_cons pw_378 (gi_cons pw_380 (gi_cons pw_390 (gi_cons pw_376 gi_nil))))))))))))))))))))))))
set_option maxRecDepth 100000 in
theorem gM_X11_differ_r3 : GoodIn lw_tbl wsX11_differ_r3 := (gi_cons pw_212 (gi_cons pw_373 (gi_cons pw_389 (gi_cons pw_209 (gi_cons pw_206 (gi_cons pw_208 (gi_cons pw_207 (gi_cons pw_259 (gi_cons pw_414 (gi_cons pw_413 (gi_cons pw_412 (gi_cons pw_411 (gi_cons pw_48 (gi_cons pw_410 (gi_cons pw_409 (gi_cons pw_408 (gi_cons pw_407 (gi_cons pw_28 (gi_cons pw_406 (gi_cons pw_405 (gi_cons pw_404 (gi_cons pw_403 (gi_cons pw_44 (gi_cons pw_402 gi_nil))))))))))))))))))))))))
set_option maxRecDepth 100000 in
theorem gM_X11_differ_r4 : GoodIn lw_tbl wsX11_differ_r4 := (gi_cons pw_401 (gi_cons pw_400 (gi_cons pw_399 (gi_cons pw_16 (gi_cons pw_15 (gi_cons pw_14 (gi_cons pw_13 gi_nil)))))))
set_option maxRecDepth 100000 in
theorem gM_X11_differ : GoodIn lw_tbl wsX11_differ := (gi_cons pw_741 (goodIn_app (goodIn_app gM_X11_differ_r1 (goodIn_app gM_X11_differ_r2 (goodIn_app gM_X11_differ_r3 gM_X11_differ_r4))) gc_X11))
set_option maxRecDepth 100000 in
theorem gM_X8_count : GoodIn lw_tbl wsX8_count := (gi_cons pw_742 (goodIn_app (goodIn_app (goodIn_app (goodIn_app (gi_cons pw_11 (gi_cons pw_703 (gi_cons pw_61 gi_nil))) gc_X8) gc_X7) gc_X2) gc_X4))
set_option maxRecDepth 100000 in
theorem gM_X11_count : GoodIn lw_tbl wsX11_count := (gi_cons pw_743 (goodIn_app (gi_cons pw_25 (gi_cons pw_24 (gi_cons pw_29 (gi_cons pw_45 (gi_cons pw_217 (gi_cons pw_706 (gi_cons pw_64 gi_nil))))))) gc_X11))
set_option maxRecDepth 100000 in
theorem gM_X8_trouble : GoodIn lw_tbl wsX8_trouble := (gi_cons pw_744 (goodIn_app (gi_cons pw_5 gi_nil) gc_X8))
set_option maxRecDepth 100000 in
theorem gM_X11_trouble : GoodIn lw_tbl wsX11_trouble := (gi_cons pw_745 (goodIn_app (gi_cons pw_25 (gi_cons pw_18 gi_nil)) gc_X11))
set_option maxRecDepth 100000 in
theorem gM_X8_init_r1 : GoodIn lw_tbl wsX8_init_r1 := (gi_cons pw_759 (gi_cons pw_758 (gi_cons pw_757 (gi_cons pw_756 (gi_cons pw_755 (gi_cons pw_33 (gi_cons pw_11 (gi_cons pw_754 (gi_cons pw_753 (gi_cons pw_57 (gi_cons pw_61 (gi_cons pw_752 (gi_cons pw_751 (gi_cons pw_304 (gi_cons pw_301 (gi_cons pw_750 (gi_cons pw_749 (gi_cons pw_297 (gi_cons pw_302 (gi_cons pw_437 (gi_cons pw_641 (gi_cons pw_640 (gi_cons pw_748 (gi_cons pw_747 gi_nil))))))))))))))))))))))))
set_option maxRecDepth 100000 in
theorem gM_X8_init_r2 : GoodIn lw_tbl wsX8_init_r2 := (gi_cons pw_458 (gi_cons pw_439 (gi_cons pw_769 (gi_cons pw_768 (gi_cons pw_461 (gi_cons pw_438 (gi_cons pw_767 (gi_cons pw_766 (gi_cons pw_591 (gi_cons pw_585 (gi_cons pw_765 (gi_cons pw_764 (gi_cons pw_699 (gi_cons pw_703 (gi_cons pw_763 (gi_cons pw_736 (gi_cons pw_5 (gi_cons pw_762 (gi_cons pw_761 (gi_cons pw_760 (gi_cons pw_308 (gi_cons pw_479 (gi_cons pw_474 (gi_cons pw_274 gi_nil))))))))))))))))))))))))
set_option maxRecDepth 100000 in
theorem gM_X8_init_r3 : GoodIn lw_tbl wsX8_init_r3 := (gi_cons pw_775 (gi_cons pw_329 (gi_cons pw_31 (gi_cons pw_203 (gi_cons pw_159 (gi_cons pw_774 (gi_cons pw_773 (gi_cons pw_772 (gi_cons pw_50 (gi_cons pw_55 (gi_cons pw_76 (gi_cons pw_75 (gi_cons pw_71 (gi_cons pw_66 (gi_cons pw_103 (gi_cons pw_197 (gi_cons pw_196 (gi_cons pw_74 (gi_cons pw_73 (gi_cons pw_179 (gi_cons pw_178 (gi_cons pw_72 (gi_cons pw_771 (gi_cons pw_770 gi_nil))))))))))))))))))))))))
set_option maxRecDepth 100000 in
theorem gM_X8_init_r4 : GoodIn lw_tbl wsX8_init_r4 := (gi_cons pw_784 (gi_cons pw_346 (gi_cons pw_783 (gi_cons pw_782 (gi_cons pw_781 (gi_cons pw_780 (gi_cons pw_779 (gi_cons pw_295 (gi_cons pw_326 (gi_cons pw_325 (gi_cons pw_324 (gi_cons pw_323 (gi_cons pw_322 (gi_cons pw_321 (gi_cons pw_320 (gi_cons pw_319 (gi_cons pw_318 (gi_cons pw_317 (gi_cons pw_364 (gi_cons pw_778 (gi_cons pw_777 (gi_cons pw_776 (gi_cons pw_456 (gi_cons pw_454 gi_nil))))))))))))))))))))))))
set_option maxRecDepth 100000 in
theorem gM_X8_init_r5 : GoodIn lw_tbl wsX8_init_r5 := (gi_cons pw_452 (gi_cons pw_455 (gi_cons pw_453 (gi_cons pw_451 (gi_cons pw_790 (gi_cons pw_789 (gi_cons pw_788 (gi_cons pw_488 (gi_cons pw_503 (gi_cons pw_502 (gi_cons pw_501 (gi_cons pw_500 (gi_cons pw_499 (gi_cons pw_498 (gi_cons pw_497 (gi_cons pw_496 (gi_cons pw_495 (gi_cons pw_494 (gi_cons pw_787 (gi_cons pw_786 (gi_cons pw_785 (gi_cons pw_589 (gi_cons pw_588 (gi_cons pw_587 gi_nil))))))))))))))))))))))))
set_option maxRecDepth 100000 in
theorem gM_X8_init_r6 : GoodIn lw_tbl wsX8_init_r6 := (gi_cons pw_586 (gi_cons pw_793 (gi_cons pw_792 (gi_cons pw_791 (gi_cons pw_696 (gi_cons pw_711 (gi_cons pw_697 (gi_cons pw_710 (gi_cons pw_726 gi_nil)))))))))
set_option maxRecDepth 100000 in
theorem gM_X8_init : GoodIn lw_tbl wsX8_init := (gi_cons pw_746 (goodIn_app (goodIn_app (goodIn_app (goodIn_app (goodIn_app (goodIn_app (goodIn_app (goodIn_app (goodIn_app (goodIn_app gM_X8_init_r1 (goodIn_app gM_X8_init_r2 (goodIn_app gM_X8_init_r3 (goodIn_app gM_X8_init_r4 (goodIn_app gM_X8_init_r5 gM_X8_init_r6))))) gc_X7) gc_X8) gc_X4) gc_X3) gc_X6) gc_X0) gc_X5) gc_X1) gc_X2))
set_option maxRecDepth 100000 in
theorem gM_X11_init_r1 : GoodIn lw_tbl wsX11_init_r1 := (gi_cons pw_800 (gi_cons pw_758 (gi_cons pw_757 (gi_cons pw_17 (gi_cons pw_48 (gi_cons pw_763 (gi_cons pw_28 (gi_cons pw_44 (gi_cons pw_212 (gi_cons pw_209 (gi_cons pw_206 (gi_cons pw_208 (gi_cons pw_207 (gi_cons pw_259 (gi_cons pw_799 (gi_cons pw_798 (gi_cons pw_797 (gi_cons pw_796 (gi_cons pw_795 (gi_cons pw_63 (gi_cons pw_243 (gi_cons pw_389 (gi_cons pw_645 (gi_cons pw_373 gi_nil))))))))))))))))))))))))
set_option maxRecDepth 100000 in
theorem gM_X11_init_r2 : GoodIn lw_tbl wsX11_init_r2 := (gi_cons pw_374 (gi_cons pw_514 (gi_cons pw_530 (gi_cons pw_515 (gi_cons pw_517 (gi_cons pw_516 (gi_cons pw_807 (gi_cons pw_564 (gi_cons pw_624 (gi_cons pw_806 (gi_cons pw_805 (gi_cons pw_658 (gi_cons pw_647 (gi_cons pw_646 (gi_cons pw_648 (gi_cons pw_705 (gi_cons pw_731 (gi_cons pw_730 (gi_cons pw_729 (gi_cons pw_728 (gi_cons pw_804 (gi_cons pw_803 (gi_cons pw_802 (gi_cons pw_801 gi_nil))))))))))))))))))))))))
set_option maxRecDepth 100000 in
theorem gM_X11_init_r3 : GoodIn lw_tbl wsX11_init_r3 := (gi_cons pw_809 (gi_cons pw_808 gi_nil))
set_option maxRecDepth 100000 in
theorem gM_X11_init : GoodIn lw_tbl wsX11_init := (gi_cons pw_794 (goodIn_app (goodIn_app (goodIn_app (goodIn_app gM_X11_init_r1 (goodIn_app gM_X11_init_r2 gM_X11_init_r3)) gc_X11) gc_X10) gc_X9))
set_option maxRecDepth 100000 in
theorem gW_X8_fact : GoodIn lw_tbl (wsV RL 13 RX8 yX8_fact wsX8_fact) := goodIn_app (gi_cons pw_810 (gi_cons pw_811 (gi_cons pw_812 (gi_cons pw_7 gi_nil)))) gM_X8_fact
set_option maxRecDepth 100000 in
theorem gW_X11_fact : GoodIn lw_tbl (wsV RL 17 RX11 yX11_fact wsX11_fact) := goodIn_app (gi_cons pw_813 (gi_cons pw_814 (gi_cons pw_815 (gi_cons pw_20 gi_nil)))) gM_X11_fact
set_option maxRecDepth 100000 in
theorem gW_X8_sign : GoodIn lw_tbl (wsV RL 18 RX8 yX8_sign wsX8_sign) := goodIn_app (gi_cons pw_816 (gi_cons pw_817 (gi_cons pw_818 (gi_cons pw_7 gi_nil)))) gM_X8_sign
set_option maxRecDepth 100000 in
theorem gW_X11_sign : GoodIn lw_tbl (wsV RL 22 RX11 yX11_sign wsX11_sign) := goodIn_app (gi_cons pw_819 (gi_cons pw_820 (gi_cons pw_821 (gi_cons pw_20 gi_nil)))) gM_X11_sign
set_option maxRecDepth 100000 in
theorem gW_X8_person : GoodIn lw_tbl (wsV RL 23 RX8 yX8_person wsX8_person) := goodIn_app (gi_cons pw_822 (gi_cons pw_823 (gi_cons pw_824 (gi_cons pw_7 gi_nil)))) gM_X8_person
set_option maxRecDepth 100000 in
theorem gW_X11_person : GoodIn lw_tbl (wsV RL 26 RX11 yX11_person wsX11_person) := goodIn_app (gi_cons pw_825 (gi_cons pw_826 (gi_cons pw_827 (gi_cons pw_20 gi_nil)))) gM_X11_person
set_option maxRecDepth 100000 in
theorem gW_X8_goal : GoodIn lw_tbl (wsV RL 27 RX8 yX8_goal wsX8_goal) := goodIn_app (gi_cons pw_828 (gi_cons pw_829 (gi_cons pw_830 (gi_cons pw_7 gi_nil)))) gM_X8_goal
set_option maxRecDepth 100000 in
theorem gW_X11_goal : GoodIn lw_tbl (wsV RL 31 RX11 yX11_goal wsX11_goal) := goodIn_app (gi_cons pw_831 (gi_cons pw_832 (gi_cons pw_833 (gi_cons pw_20 gi_nil)))) gM_X11_goal
set_option maxRecDepth 100000 in
theorem gW_X8_feed : GoodIn lw_tbl (wsV RL 32 RX8 yX8_feed wsX8_feed) := goodIn_app (gi_cons pw_834 (gi_cons pw_835 (gi_cons pw_836 (gi_cons pw_7 gi_nil)))) gM_X8_feed
set_option maxRecDepth 100000 in
theorem gW_X11_feed : GoodIn lw_tbl (wsV RL 36 RX11 yX11_feed wsX11_feed) := goodIn_app (gi_cons pw_837 (gi_cons pw_838 (gi_cons pw_839 (gi_cons pw_20 gi_nil)))) gM_X11_feed
set_option maxRecDepth 100000 in
theorem gW_X8_book : GoodIn lw_tbl (wsV RL 37 RX8 yX8_book wsX8_book) := goodIn_app (gi_cons pw_840 (gi_cons pw_841 (gi_cons pw_842 (gi_cons pw_7 gi_nil)))) gM_X8_book
set_option maxRecDepth 100000 in
theorem gW_X8_fault : GoodIn lw_tbl (wsV RL 41 RX8 yX8_fault wsX8_fault) := goodIn_app (gi_cons pw_843 (gi_cons pw_844 (gi_cons pw_845 (gi_cons pw_7 gi_nil)))) gM_X8_fault
set_option maxRecDepth 100000 in
theorem gW_X11_fault : GoodIn lw_tbl (wsV RL 44 RX11 yX11_fault wsX11_fault) := goodIn_app (gi_cons pw_846 (gi_cons pw_847 (gi_cons pw_848 (gi_cons pw_20 gi_nil)))) gM_X11_fault
set_option maxRecDepth 100000 in
theorem gW_X8_where : GoodIn lw_tbl (wsV RL 45 RX8 yX8_where wsX8_where) := goodIn_app (gi_cons pw_849 (gi_cons pw_850 (gi_cons pw_851 (gi_cons pw_7 gi_nil)))) gM_X8_where
set_option maxRecDepth 100000 in
theorem gW_X11_where : GoodIn lw_tbl (wsV RL 48 RX11 yX11_where wsX11_where) := goodIn_app (gi_cons pw_852 (gi_cons pw_853 (gi_cons pw_854 (gi_cons pw_20 gi_nil)))) gM_X11_where
set_option maxRecDepth 100000 in
theorem gW_X8_steps : GoodIn lw_tbl (wsV RL 49 RX8 yX8_steps wsX8_steps) := goodIn_app (gi_cons pw_855 (gi_cons pw_856 (gi_cons pw_857 (gi_cons pw_7 gi_nil)))) gM_X8_steps
set_option maxRecDepth 100000 in
theorem gW_X11_steps : GoodIn lw_tbl (wsV RL 52 RX11 yX11_steps wsX11_steps) := goodIn_app (gi_cons pw_858 (gi_cons pw_859 (gi_cons pw_860 (gi_cons pw_20 gi_nil)))) gM_X11_steps
set_option maxRecDepth 100000 in
theorem gW_X8_step : GoodIn lw_tbl (wsV RL 53 RX8 yX8_step wsX8_step) := goodIn_app (gi_cons pw_861 (gi_cons pw_862 (gi_cons pw_863 (gi_cons pw_7 gi_nil)))) gM_X8_step
set_option maxRecDepth 100000 in
theorem gW_X11_step : GoodIn lw_tbl (wsV RL 57 RX11 yX11_step wsX11_step) := goodIn_app (gi_cons pw_864 (gi_cons pw_865 (gi_cons pw_866 (gi_cons pw_20 gi_nil)))) gM_X11_step
set_option maxRecDepth 100000 in
theorem gW_X8_play : GoodIn lw_tbl (wsV RL 58 RX8 yX8_play wsX8_play) := goodIn_app (gi_cons pw_867 (gi_cons pw_868 (gi_cons pw_869 (gi_cons pw_7 gi_nil)))) gM_X8_play
set_option maxRecDepth 100000 in
theorem gW_X11_play : GoodIn lw_tbl (wsV RL 62 RX11 yX11_play wsX11_play) := goodIn_app (gi_cons pw_870 (gi_cons pw_871 (gi_cons pw_872 (gi_cons pw_20 gi_nil)))) gM_X11_play
set_option maxRecDepth 100000 in
theorem gW_X8_played : GoodIn lw_tbl (wsV RL 63 RX8 yX8_played wsX8_played) := goodIn_app (gi_cons pw_873 (gi_cons pw_874 (gi_cons pw_875 (gi_cons pw_7 gi_nil)))) gM_X8_played
set_option maxRecDepth 100000 in
theorem gW_X11_played : GoodIn lw_tbl (wsV RL 66 RX11 yX11_played wsX11_played) := goodIn_app (gi_cons pw_876 (gi_cons pw_877 (gi_cons pw_878 (gi_cons pw_20 gi_nil)))) gM_X11_played
set_option maxRecDepth 100000 in
theorem gW_X8_path : GoodIn lw_tbl (wsV RL 67 RX8 yX8_path wsX8_path) := goodIn_app (gi_cons pw_879 (gi_cons pw_880 (gi_cons pw_881 (gi_cons pw_7 gi_nil)))) gM_X8_path
set_option maxRecDepth 100000 in
theorem gW_X11_path : GoodIn lw_tbl (wsV RL 70 RX11 yX11_path wsX11_path) := goodIn_app (gi_cons pw_882 (gi_cons pw_883 (gi_cons pw_884 (gi_cons pw_20 gi_nil)))) gM_X11_path
set_option maxRecDepth 100000 in
theorem gW_X8_all : GoodIn lw_tbl (wsV RL 71 RX8 yX8_all wsX8_all) := goodIn_app (gi_cons pw_885 (gi_cons pw_886 (gi_cons pw_887 (gi_cons pw_7 gi_nil)))) gM_X8_all
set_option maxRecDepth 100000 in
theorem gW_X11_all : GoodIn lw_tbl (wsV RL 74 RX11 yX11_all wsX11_all) := goodIn_app (gi_cons pw_888 (gi_cons pw_889 (gi_cons pw_890 (gi_cons pw_20 gi_nil)))) gM_X11_all
set_option maxRecDepth 100000 in
theorem gW_X8_ended : GoodIn lw_tbl (wsV RL 75 RX8 yX8_ended wsX8_ended) := goodIn_app (gi_cons pw_891 (gi_cons pw_892 (gi_cons pw_893 (gi_cons pw_7 gi_nil)))) gM_X8_ended
set_option maxRecDepth 100000 in
theorem gW_X11_ended : GoodIn lw_tbl (wsV RL 78 RX11 yX11_ended wsX11_ended) := goodIn_app (gi_cons pw_894 (gi_cons pw_895 (gi_cons pw_896 (gi_cons pw_20 gi_nil)))) gM_X11_ended
set_option maxRecDepth 100000 in
theorem gW_X8_allOf : GoodIn lw_tbl (wsV RL 79 RX8 yX8_allOf wsX8_allOf) := goodIn_app (gi_cons pw_897 (gi_cons pw_898 (gi_cons pw_899 (gi_cons pw_7 gi_nil)))) gM_X8_allOf
set_option maxRecDepth 100000 in
theorem gW_X11_allOf : GoodIn lw_tbl (wsV RL 82 RX11 yX11_allOf wsX11_allOf) := goodIn_app (gi_cons pw_900 (gi_cons pw_901 (gi_cons pw_902 (gi_cons pw_20 gi_nil)))) gM_X11_allOf
set_option maxRecDepth 100000 in
theorem gW_X8_idle : GoodIn lw_tbl (wsV RL 83 RX8 yX8_idle wsX8_idle) := goodIn_app (gi_cons pw_903 (gi_cons pw_904 (gi_cons pw_905 (gi_cons pw_7 gi_nil)))) gM_X8_idle
set_option maxRecDepth 100000 in
theorem gW_X11_idle : GoodIn lw_tbl (wsV RL 86 RX11 yX11_idle wsX11_idle) := goodIn_app (gi_cons pw_906 (gi_cons pw_907 (gi_cons pw_908 (gi_cons pw_20 gi_nil)))) gM_X11_idle
set_option maxRecDepth 100000 in
theorem gW_X8_look : GoodIn lw_tbl (wsV RL 87 RX8 yX8_look wsX8_look) := goodIn_app (gi_cons pw_909 (gi_cons pw_910 (gi_cons pw_911 (gi_cons pw_7 gi_nil)))) gM_X8_look
set_option maxRecDepth 100000 in
theorem gW_X11_look : GoodIn lw_tbl (wsV RL 91 RX11 yX11_look wsX11_look) := goodIn_app (gi_cons pw_912 (gi_cons pw_913 (gi_cons pw_914 (gi_cons pw_20 gi_nil)))) gM_X11_look
set_option maxRecDepth 100000 in
theorem gW_X8_mends : GoodIn lw_tbl (wsV RL 92 RX8 yX8_mends wsX8_mends) := goodIn_app (gi_cons pw_915 (gi_cons pw_916 (gi_cons pw_917 (gi_cons pw_7 gi_nil)))) gM_X8_mends
set_option maxRecDepth 100000 in
theorem gW_X11_mends : GoodIn lw_tbl (wsV RL 95 RX11 yX11_mends wsX11_mends) := goodIn_app (gi_cons pw_918 (gi_cons pw_919 (gi_cons pw_920 (gi_cons pw_20 gi_nil)))) gM_X11_mends
set_option maxRecDepth 100000 in
theorem gW_X8_mend : GoodIn lw_tbl (wsV RL 96 RX8 yX8_mend wsX8_mend) := goodIn_app (gi_cons pw_921 (gi_cons pw_922 (gi_cons pw_923 (gi_cons pw_7 gi_nil)))) gM_X8_mend
set_option maxRecDepth 100000 in
theorem gW_X11_mend : GoodIn lw_tbl (wsV RL 99 RX11 yX11_mend wsX11_mend) := goodIn_app (gi_cons pw_924 (gi_cons pw_925 (gi_cons pw_926 (gi_cons pw_20 gi_nil)))) gM_X11_mend
set_option maxRecDepth 100000 in
theorem gW_X8_nights : GoodIn lw_tbl (wsV RL 100 RX8 yX8_nights wsX8_nights) := goodIn_app (gi_cons pw_927 (gi_cons pw_928 (gi_cons pw_929 (gi_cons pw_7 gi_nil)))) gM_X8_nights
set_option maxRecDepth 100000 in
theorem gW_X11_nights : GoodIn lw_tbl (wsV RL 104 RX11 yX11_nights wsX11_nights) := goodIn_app (gi_cons pw_930 (gi_cons pw_931 (gi_cons pw_932 (gi_cons pw_20 gi_nil)))) gM_X11_nights
set_option maxRecDepth 100000 in
theorem gW_X8_night : GoodIn lw_tbl (wsV RL 105 RX8 yX8_night wsX8_night) := goodIn_app (gi_cons pw_933 (gi_cons pw_934 (gi_cons pw_935 (gi_cons pw_7 gi_nil)))) gM_X8_night
set_option maxRecDepth 100000 in
theorem gW_X11_night : GoodIn lw_tbl (wsV RL 109 RX11 yX11_night wsX11_night) := goodIn_app (gi_cons pw_936 (gi_cons pw_937 (gi_cons pw_938 (gi_cons pw_20 gi_nil)))) gM_X11_night
set_option maxRecDepth 100000 in
theorem gW_X8_log : GoodIn lw_tbl (wsV RL 110 RX8 yX8_log wsX8_log) := goodIn_app (gi_cons pw_939 (gi_cons pw_940 (gi_cons pw_941 (gi_cons pw_7 gi_nil)))) gM_X8_log
set_option maxRecDepth 100000 in
theorem gW_X11_log : GoodIn lw_tbl (wsV RL 113 RX11 yX11_log wsX11_log) := goodIn_app (gi_cons pw_942 (gi_cons pw_943 (gi_cons pw_944 (gi_cons pw_20 gi_nil)))) gM_X11_log
set_option maxRecDepth 100000 in
theorem gW_X8_clear : GoodIn lw_tbl (wsV RL 114 RX8 yX8_clear wsX8_clear) := goodIn_app (gi_cons pw_945 (gi_cons pw_946 (gi_cons pw_947 (gi_cons pw_7 gi_nil)))) gM_X8_clear
set_option maxRecDepth 100000 in
theorem gW_X11_clear : GoodIn lw_tbl (wsV RL 117 RX11 yX11_clear wsX11_clear) := goodIn_app (gi_cons pw_948 (gi_cons pw_949 (gi_cons pw_950 (gi_cons pw_20 gi_nil)))) gM_X11_clear
set_option maxRecDepth 100000 in
theorem gW_X8_laid : GoodIn lw_tbl (wsV RL 118 RX8 yX8_laid wsX8_laid) := goodIn_app (gi_cons pw_951 (gi_cons pw_952 (gi_cons pw_953 (gi_cons pw_7 gi_nil)))) gM_X8_laid
set_option maxRecDepth 100000 in
theorem gW_X11_laid : GoodIn lw_tbl (wsV RL 121 RX11 yX11_laid wsX11_laid) := goodIn_app (gi_cons pw_954 (gi_cons pw_955 (gi_cons pw_956 (gi_cons pw_20 gi_nil)))) gM_X11_laid
set_option maxRecDepth 100000 in
theorem gW_X8_apart : GoodIn lw_tbl (wsV RL 122 RX8 yX8_apart wsX8_apart) := goodIn_app (gi_cons pw_957 (gi_cons pw_958 (gi_cons pw_959 (gi_cons pw_7 gi_nil)))) gM_X8_apart
set_option maxRecDepth 100000 in
theorem gW_X11_apart : GoodIn lw_tbl (wsV RL 126 RX11 yX11_apart wsX11_apart) := goodIn_app (gi_cons pw_960 (gi_cons pw_961 (gi_cons pw_962 (gi_cons pw_20 gi_nil)))) gM_X11_apart
set_option maxRecDepth 100000 in
theorem gW_X8_differ : GoodIn lw_tbl (wsV RL 127 RX8 yX8_differ wsX8_differ) := goodIn_app (gi_cons pw_963 (gi_cons pw_964 (gi_cons pw_965 (gi_cons pw_7 gi_nil)))) gM_X8_differ
set_option maxRecDepth 100000 in
theorem gW_X11_differ : GoodIn lw_tbl (wsV RL 131 RX11 yX11_differ wsX11_differ) := goodIn_app (gi_cons pw_966 (gi_cons pw_967 (gi_cons pw_968 (gi_cons pw_20 gi_nil)))) gM_X11_differ
set_option maxRecDepth 100000 in
theorem gW_X8_count : GoodIn lw_tbl (wsV RL 132 RX8 yX8_count wsX8_count) := goodIn_app (gi_cons pw_969 (gi_cons pw_970 (gi_cons pw_971 (gi_cons pw_7 gi_nil)))) gM_X8_count
set_option maxRecDepth 100000 in
theorem gW_X11_count : GoodIn lw_tbl (wsV RL 135 RX11 yX11_count wsX11_count) := goodIn_app (gi_cons pw_972 (gi_cons pw_973 (gi_cons pw_974 (gi_cons pw_20 gi_nil)))) gM_X11_count
set_option maxRecDepth 100000 in
theorem gW_X8_trouble : GoodIn lw_tbl (wsV RL 136 RX8 yX8_trouble wsX8_trouble) := goodIn_app (gi_cons pw_975 (gi_cons pw_976 (gi_cons pw_977 (gi_cons pw_7 gi_nil)))) gM_X8_trouble
set_option maxRecDepth 100000 in
theorem gW_X11_trouble : GoodIn lw_tbl (wsV RL 139 RX11 yX11_trouble wsX11_trouble) := goodIn_app (gi_cons pw_978 (gi_cons pw_979 (gi_cons pw_980 (gi_cons pw_20 gi_nil)))) gM_X11_trouble
