-- deps: B5.w
theorem wl_X11_init_r1 : GoodIn lw_tbl wsX11_init_r1 := by
  unfold wsX11_init_r1
  exact wn_c wd_23 (wn_c wd_22 (wn_c wd_21 (wn_c wd_20 (wn_c wd_19 (wn_c wd_18 (wn_c wd_17 (wn_c wd_16 (wn_c wd_15 (wn_c wd_14 (wn_c wd_13 (wn_c wd_12 (wn_c wd_11 (wn_c wd_10 (wn_c wd_9 (wn_c wd_8 (wn_c wd_7 (wn_c wd_6 (wn_c wd_5 (wn_c wd_4 (wn_c wd_3 (wn_c wd_2 (wn_c wd_1 (wn_c wd_0 wn_0)))))))))))))))))))))))
theorem wl_X11_init_r2 : GoodIn lw_tbl wsX11_init_r2 := by
  unfold wsX11_init_r2
  exact wn_c wd_47 (wn_c wd_46 (wn_c wd_45 (wn_c wd_44 (wn_c wd_43 (wn_c wd_42 (wn_c wd_41 (wn_c wd_40 (wn_c wd_39 (wn_c wd_38 (wn_c wd_37 (wn_c wd_36 (wn_c wd_35 (wn_c wd_34 (wn_c wd_33 (wn_c wd_32 (wn_c wd_31 (wn_c wd_30 (wn_c wd_29 (wn_c wd_28 (wn_c wd_27 (wn_c wd_26 (wn_c wd_25 (wn_c wd_24 wn_0)))))))))))))))))))))))
theorem wl_X11_init_r3 : GoodIn lw_tbl wsX11_init_r3 := by
  unfold wsX11_init_r3
  exact wn_c wd_71 (wn_c wd_70 (wn_c wd_69 (wn_c wd_68 (wn_c wd_67 (wn_c wd_66 (wn_c wd_65 (wn_c wd_64 (wn_c wd_63 (wn_c wd_62 (wn_c wd_61 (wn_c wd_60 (wn_c wd_59 (wn_c wd_58 (wn_c wd_57 (wn_c wd_56 (wn_c wd_55 (wn_c wd_54 (wn_c wd_53 (wn_c wd_52 (wn_c wd_51 (wn_c wd_50 (wn_c wd_49 (wn_c wd_48 wn_0)))))))))))))))))))))))
theorem wl_X11_init_r4 : GoodIn lw_tbl wsX11_init_r4 := by
  unfold wsX11_init_r4
  exact wn_c wd_95 (wn_c wd_94 (wn_c wd_93 (wn_c wd_92 (wn_c wd_91 (wn_c wd_90 (wn_c wd_89 (wn_c wd_88 (wn_c wd_87 (wn_c wd_86 (wn_c wd_85 (wn_c wd_84 (wn_c wd_83 (wn_c wd_82 (wn_c wd_81 (wn_c wd_80 (wn_c wd_79 (wn_c wd_78 (wn_c wd_77 (wn_c wd_76 (wn_c wd_75 (wn_c wd_74 (wn_c wd_73 (wn_c wd_72 wn_0)))))))))))))))))))))))
theorem wl_X11_init_r5 : GoodIn lw_tbl wsX11_init_r5 := by
  unfold wsX11_init_r5
  exact wn_c wd_119 (wn_c wd_118 (wn_c wd_117 (wn_c wd_116 (wn_c wd_115 (wn_c wd_114 (wn_c wd_113 (wn_c wd_112 (wn_c wd_111 (wn_c wd_110 (wn_c wd_109 (wn_c wd_108 (wn_c wd_107 (wn_c wd_106 (wn_c wd_105 (wn_c wd_104 (wn_c wd_103 (wn_c wd_102 (wn_c wd_101 (wn_c wd_100 (wn_c wd_99 (wn_c wd_98 (wn_c wd_97 (wn_c wd_96 wn_0)))))))))))))))))))))))
theorem wl_X11_init_r6 : GoodIn lw_tbl wsX11_init_r6 := by
  unfold wsX11_init_r6
  exact wn_c wd_124 (wn_c wd_123 (wn_c wd_122 (wn_c wd_121 (wn_c wd_120 wn_0))))
theorem wl_X11_init : GoodIn lw_tbl wsX11_init := by
  unfold wsX11_init
  exact wn_c wd_125 (wn_a (wn_a (wn_a (wn_a (wn_a (wn_a (wn_a (wn_a (wn_a (wn_a (wn_a (wl_X11_init_r1) (wn_a (wl_X11_init_r2) (wn_a (wl_X11_init_r3) (wn_a (wl_X11_init_r4) (wn_a (wl_X11_init_r5) (wl_X11_init_r6)))))) (wt_8)) (wt_11)) (wt_10)) (wt_1)) (wt_7)) (wt_3)) (wt_6)) (wt_5)) (wt_9)) (wt_4))
theorem wl_X12_init_r1 : GoodIn lw_tbl wsX12_init_r1 := by
  unfold wsX12_init_r1
  exact wn_c wd_146 (wn_c wd_22 (wn_c wd_21 (wn_c wd_145 (wn_c wd_71 (wn_c wd_144 (wn_c wd_143 (wn_c wd_142 (wn_c wd_141 (wn_c wd_140 (wn_c wd_139 (wn_c wd_138 (wn_c wd_137 (wn_c wd_136 (wn_c wd_135 (wn_c wd_134 (wn_c wd_133 (wn_c wd_132 (wn_c wd_131 (wn_c wd_130 (wn_c wd_129 (wn_c wd_128 (wn_c wd_127 (wn_c wd_126 wn_0)))))))))))))))))))))))
theorem wl_X12_init_r2 : GoodIn lw_tbl wsX12_init_r2 := by
  unfold wsX12_init_r2
  exact wn_c wd_153 (wn_c wd_87 (wn_c wd_152 (wn_c wd_151 (wn_c wd_150 (wn_c wd_149 (wn_c wd_148 (wn_c wd_147 wn_0)))))))
theorem wl_X12_init : GoodIn lw_tbl wsX12_init := by
  unfold wsX12_init
  exact wn_c wd_154 (wn_a (wn_a (wl_X12_init_r1) (wl_X12_init_r2)) (wt_12))
theorem wl_X11_letters_r1 : GoodIn lw_tbl wsX11_letters_r1 := by
  unfold wsX11_letters_r1
  exact wn_c wd_17 (wn_c wd_162 (wn_c wd_13 (wn_c wd_12 (wn_c wd_161 (wn_c wd_160 (wn_c wd_67 (wn_c wd_66 (wn_c wd_18 (wn_c wd_65 (wn_c wd_64 (wn_c wd_63 (wn_c wd_62 (wn_c wd_61 (wn_c wd_60 (wn_c wd_70 (wn_c wd_69 (wn_c wd_59 (wn_c wd_159 (wn_c wd_158 (wn_c wd_157 (wn_c wd_14 (wn_c wd_156 (wn_c wd_155 wn_0)))))))))))))))))))))))
theorem wl_X11_letters_r2 : GoodIn lw_tbl wsX11_letters_r2 := by
  unfold wsX11_letters_r2
  exact wn_c wd_169 (wn_c wd_168 (wn_c wd_167 (wn_c wd_166 (wn_c wd_165 (wn_c wd_164 (wn_c wd_163 wn_0))))))
theorem wl_X11_letters : GoodIn lw_tbl wsX11_letters := by
  unfold wsX11_letters
  exact wn_c wd_170 (wn_a (wn_a (wn_a (wn_a (wl_X11_letters_r1) (wl_X11_letters_r2)) (wt_11)) (wt_8)) (wt_10))
theorem wl_X12_letters : GoodIn lw_tbl wsX12_letters := by
  unfold wsX12_letters
  exact wn_c wd_180 (wn_a (wn_c wd_179 (wn_c wd_145 (wn_c wd_144 (wn_c wd_178 (wn_c wd_140 (wn_c wd_177 (wn_c wd_176 (wn_c wd_175 (wn_c wd_174 wn_0))))))))) (wt_12))
theorem wl_X11_letter : GoodIn lw_tbl wsX11_letter := by
  unfold wsX11_letter
  exact wn_c wd_193 (wn_a (wn_a (wn_a (wn_c wd_13 (wn_c wd_192 (wn_c wd_191 (wn_c wd_190 (wn_c wd_189 (wn_c wd_166 (wn_c wd_188 (wn_c wd_17 (wn_c wd_162 (wn_c wd_187 (wn_c wd_186 (wn_c wd_185 (wn_c wd_14 (wn_c wd_184 (wn_c wd_155 (wn_c wd_53 wn_0)))))))))))))))) (wt_11)) (wt_10)) (wt_8))
theorem wl_X12_letter : GoodIn lw_tbl wsX12_letter := by
  unfold wsX12_letter
  exact wn_c wd_197 (wn_a (wn_c wd_145 (wn_c wd_144 (wn_c wd_143 (wn_c wd_177 (wn_c wd_176 (wn_c wd_175 (wn_c wd_174 wn_0))))))) (wt_12))
theorem wl_X11_clear : GoodIn lw_tbl wsX11_clear := by
  unfold wsX11_clear
  exact wn_c wd_201 (wn_a (wn_a (wn_c wd_13 (wn_c wd_192 (wn_c wd_159 (wn_c wd_158 (wn_c wd_157 (wn_c wd_14 (wn_c wd_156 (wn_c wd_155 wn_0)))))))) (wt_11)) (wt_10))
theorem wl_X12_clear : GoodIn lw_tbl wsX12_clear := by
  unfold wsX12_clear
  exact wn_c wd_205 (wn_a (wn_c wd_144 wn_0) (wt_12))
theorem wl_X11_slot : GoodIn lw_tbl wsX11_slot := by
  unfold wsX11_slot
  exact wn_c wd_220 (wn_a (wn_a (wn_c wd_12 (wn_c wd_13 (wn_c wd_192 (wn_c wd_219 (wn_c wd_218 (wn_c wd_217 (wn_c wd_166 (wn_c wd_216 (wn_c wd_215 (wn_c wd_214 (wn_c wd_213 (wn_c wd_14 (wn_c wd_212 (wn_c wd_155 (wn_c wd_53 (wn_c wd_211 (wn_c wd_210 (wn_c wd_62 (wn_c wd_209 (wn_c wd_159 (wn_c wd_158 (wn_c wd_157 (wn_c wd_156 wn_0))))))))))))))))))))))) (wt_11)) (wt_10))
theorem wl_X12_slot : GoodIn lw_tbl wsX12_slot := by
  unfold wsX12_slot
  exact wn_c wd_232 (wn_a (wn_c wd_144 (wn_c wd_231 (wn_c wd_230 (wn_c wd_175 (wn_c wd_229 (wn_c wd_228 (wn_c wd_177 (wn_c wd_176 (wn_c wd_174 (wn_c wd_227 (wn_c wd_226 (wn_c wd_225 (wn_c wd_224 (wn_c wd_143 wn_0)))))))))))))) (wt_12))
theorem wl_X11_at : GoodIn lw_tbl wsX11_at := by
  unfold wsX11_at
  exact wn_c wd_240 (wn_a (wn_a (wn_c wd_12 (wn_c wd_219 (wn_c wd_218 (wn_c wd_217 (wn_c wd_166 (wn_c wd_216 (wn_c wd_239 (wn_c wd_238 (wn_c wd_237 (wn_c wd_14 (wn_c wd_236 (wn_c wd_155 (wn_c wd_53 wn_0))))))))))))) (wt_11)) (wt_10))
theorem wl_X12_at : GoodIn lw_tbl wsX12_at := by
  unfold wsX12_at
  exact wn_c wd_244 (wn_a (wn_c wd_144 (wn_c wd_143 (wn_c wd_231 (wn_c wd_230 (wn_c wd_175 (wn_c wd_229 (wn_c wd_228 (wn_c wd_177 (wn_c wd_176 (wn_c wd_174 wn_0)))))))))) (wt_12))
theorem wl_X11_length : GoodIn lw_tbl wsX11_length := by
  unfold wsX11_length
  exact wn_c wd_248 (wn_a (wn_a (wn_c wd_12 (wn_c wd_192 (wn_c wd_219 (wn_c wd_218 (wn_c wd_217 (wn_c wd_166 (wn_c wd_216 wn_0))))))) (wt_11)) (wt_10))
theorem wl_X12_length : GoodIn lw_tbl wsX12_length := by
  unfold wsX12_length
  exact wn_c wd_252 (wn_a (wn_c wd_144 (wn_c wd_231 (wn_c wd_230 (wn_c wd_175 (wn_c wd_229 (wn_c wd_228 (wn_c wd_177 (wn_c wd_176 (wn_c wd_174 wn_0))))))))) (wt_12))
theorem wl_X11_law_r1 : GoodIn lw_tbl wsX11_law_r1 := by
  unfold wsX11_law_r1
  exact wn_c wd_12 (wn_c wd_192 (wn_c wd_161 (wn_c wd_11 (wn_c wd_219 (wn_c wd_218 (wn_c wd_217 (wn_c wd_166 (wn_c wd_216 (wn_c wd_215 (wn_c wd_214 (wn_c wd_213 (wn_c wd_14 (wn_c wd_212 (wn_c wd_155 (wn_c wd_53 (wn_c wd_211 (wn_c wd_210 (wn_c wd_62 (wn_c wd_209 (wn_c wd_169 (wn_c wd_168 (wn_c wd_167 (wn_c wd_165 wn_0)))))))))))))))))))))))
theorem wl_X11_law_r2 : GoodIn lw_tbl wsX11_law_r2 := by
  unfold wsX11_law_r2
  exact wn_c wd_164 (wn_c wd_163 wn_0)
theorem wl_X11_law : GoodIn lw_tbl wsX11_law := by
  unfold wsX11_law
  exact wn_c wd_256 (wn_a (wn_a (wn_a (wl_X11_law_r1) (wl_X11_law_r2)) (wt_11)) (wt_10))
theorem wl_X12_law : GoodIn lw_tbl wsX12_law := by
  unfold wsX12_law
  exact wn_c wd_260 (wn_a (wn_c wd_144 (wn_c wd_178 (wn_c wd_142 (wn_c wd_141 (wn_c wd_143 (wn_c wd_140 (wn_c wd_231 (wn_c wd_230 (wn_c wd_175 (wn_c wd_229 (wn_c wd_228 (wn_c wd_177 (wn_c wd_176 (wn_c wd_174 wn_0)))))))))))))) (wt_12))
theorem wl_X11_free : GoodIn lw_tbl wsX11_free := by
  unfold wsX11_free
  exact wn_c wd_264 (wn_a (wn_c wd_161 (wn_c wd_169 (wn_c wd_168 (wn_c wd_167 (wn_c wd_166 (wn_c wd_165 (wn_c wd_164 (wn_c wd_163 wn_0)))))))) (wt_11))
theorem wl_X12_free : GoodIn lw_tbl wsX12_free := by
  unfold wsX12_free
  exact wn_c wd_268 (wn_a (wn_c wd_178 (wn_c wd_140 wn_0)) (wt_12))
theorem wl_X11_see_r1 : GoodIn lw_tbl wsX11_see_r1 := by
  unfold wsX11_see_r1
  exact wn_c wd_17 (wn_c wd_277 (wn_c wd_7 (wn_c wd_161 (wn_c wd_11 (wn_c wd_3 (wn_c wd_47 (wn_c wd_43 (wn_c wd_36 (wn_c wd_163 (wn_c wd_164 (wn_c wd_276 (wn_c wd_169 (wn_c wd_168 (wn_c wd_167 (wn_c wd_166 (wn_c wd_165 (wn_c wd_275 (wn_c wd_274 (wn_c wd_273 (wn_c wd_18 (wn_c wd_272 (wn_c wd_59 (wn_c wd_69 wn_0)))))))))))))))))))))))
theorem wl_X11_see_r2 : GoodIn lw_tbl wsX11_see_r2 := by
  unfold wsX11_see_r2
  exact wn_c wd_293 (wn_c wd_292 (wn_c wd_291 (wn_c wd_8 (wn_c wd_290 (wn_c wd_48 (wn_c wd_289 (wn_c wd_210 (wn_c wd_62 (wn_c wd_209 (wn_c wd_288 (wn_c wd_287 (wn_c wd_286 (wn_c wd_285 (wn_c wd_284 (wn_c wd_283 (wn_c wd_282 (wn_c wd_63 (wn_c wd_61 (wn_c wd_281 (wn_c wd_280 (wn_c wd_279 (wn_c wd_14 (wn_c wd_278 wn_0)))))))))))))))))))))))
theorem wl_X11_see_r3 : GoodIn lw_tbl wsX11_see_r3 := by
  unfold wsX11_see_r3
  exact wn_c wd_155 (wn_c wd_53 (wn_c wd_313 (wn_c wd_312 (wn_c wd_311 (wn_c wd_310 (wn_c wd_309 (wn_c wd_308 (wn_c wd_307 (wn_c wd_306 (wn_c wd_70 (wn_c wd_305 (wn_c wd_304 (wn_c wd_303 (wn_c wd_302 (wn_c wd_301 (wn_c wd_300 (wn_c wd_299 (wn_c wd_298 (wn_c wd_297 (wn_c wd_60 (wn_c wd_296 (wn_c wd_295 (wn_c wd_294 wn_0)))))))))))))))))))))))
theorem wl_X11_see_r4 : GoodIn lw_tbl wsX11_see_r4 := by
  unfold wsX11_see_r4
  exact wn_c wd_335 (wn_c wd_334 (wn_c wd_333 (wn_c wd_332 (wn_c wd_331 (wn_c wd_330 (wn_c wd_329 (wn_c wd_328 (wn_c wd_327 (wn_c wd_326 (wn_c wd_325 (wn_c wd_324 (wn_c wd_323 (wn_c wd_322 (wn_c wd_4 (wn_c wd_321 (wn_c wd_320 (wn_c wd_91 (wn_c wd_319 (wn_c wd_318 (wn_c wd_317 (wn_c wd_316 (wn_c wd_315 (wn_c wd_314 wn_0)))))))))))))))))))))))
theorem wl_X11_see_r5 : GoodIn lw_tbl wsX11_see_r5 := by
  unfold wsX11_see_r5
  exact wn_c wd_354 (wn_c wd_353 (wn_c wd_352 (wn_c wd_351 (wn_c wd_350 (wn_c wd_349 (wn_c wd_348 (wn_c wd_347 (wn_c wd_346 (wn_c wd_345 (wn_c wd_90 (wn_c wd_89 (wn_c wd_86 (wn_c wd_88 (wn_c wd_85 (wn_c wd_344 (wn_c wd_343 (wn_c wd_342 (wn_c wd_341 (wn_c wd_340 (wn_c wd_339 (wn_c wd_338 (wn_c wd_337 (wn_c wd_336 wn_0)))))))))))))))))))))))
theorem wl_X11_see_r6 : GoodIn lw_tbl wsX11_see_r6 := by
  unfold wsX11_see_r6
  exact wn_c wd_373 (wn_c wd_372 (wn_c wd_371 (wn_c wd_370 (wn_c wd_0 (wn_c wd_369 (wn_c wd_368 (wn_c wd_79 (wn_c wd_367 (wn_c wd_80 (wn_c wd_78 (wn_c wd_366 (wn_c wd_77 (wn_c wd_365 (wn_c wd_364 (wn_c wd_363 (wn_c wd_362 (wn_c wd_361 (wn_c wd_360 (wn_c wd_359 (wn_c wd_358 (wn_c wd_357 (wn_c wd_356 (wn_c wd_355 wn_0)))))))))))))))))))))))
theorem wl_X11_see_r7 : GoodIn lw_tbl wsX11_see_r7 := by
  unfold wsX11_see_r7
  exact wn_c wd_396 (wn_c wd_395 (wn_c wd_394 (wn_c wd_393 (wn_c wd_392 (wn_c wd_391 (wn_c wd_390 (wn_c wd_389 (wn_c wd_388 (wn_c wd_387 (wn_c wd_386 (wn_c wd_385 (wn_c wd_384 (wn_c wd_383 (wn_c wd_382 (wn_c wd_381 (wn_c wd_380 (wn_c wd_379 (wn_c wd_44 (wn_c wd_378 (wn_c wd_377 (wn_c wd_376 (wn_c wd_375 (wn_c wd_374 wn_0)))))))))))))))))))))))
theorem wl_X11_see_r8 : GoodIn lw_tbl wsX11_see_r8 := by
  unfold wsX11_see_r8
  exact wn_c wd_411 (wn_c wd_410 (wn_c wd_409 (wn_c wd_408 (wn_c wd_407 (wn_c wd_406 (wn_c wd_405 (wn_c wd_404 (wn_c wd_37 (wn_c wd_403 (wn_c wd_107 (wn_c wd_106 (wn_c wd_109 (wn_c wd_402 (wn_c wd_401 (wn_c wd_214 (wn_c wd_213 (wn_c wd_212 (wn_c wd_211 (wn_c wd_400 (wn_c wd_399 (wn_c wd_398 (wn_c wd_397 (wn_c wd_108 wn_0)))))))))))))))))))))))
theorem wl_X11_see_r9 : GoodIn lw_tbl wsX11_see_r9 := by
  unfold wsX11_see_r9
  exact wn_c wd_428 (wn_c wd_427 (wn_c wd_426 (wn_c wd_425 (wn_c wd_424 (wn_c wd_423 (wn_c wd_422 (wn_c wd_115 (wn_c wd_421 (wn_c wd_420 (wn_c wd_419 (wn_c wd_418 (wn_c wd_117 (wn_c wd_116 (wn_c wd_417 (wn_c wd_158 (wn_c wd_157 (wn_c wd_156 (wn_c wd_416 (wn_c wd_415 (wn_c wd_414 (wn_c wd_413 (wn_c wd_114 (wn_c wd_412 wn_0)))))))))))))))))))))))
theorem wl_X11_see_r10 : GoodIn lw_tbl wsX11_see_r10 := by
  unfold wsX11_see_r10
  exact wn_c wd_447 (wn_c wd_446 (wn_c wd_445 (wn_c wd_444 (wn_c wd_443 (wn_c wd_442 (wn_c wd_441 (wn_c wd_440 (wn_c wd_439 (wn_c wd_438 (wn_c wd_437 (wn_c wd_436 (wn_c wd_435 (wn_c wd_186 (wn_c wd_185 (wn_c wd_184 (wn_c wd_434 (wn_c wd_433 (wn_c wd_432 (wn_c wd_431 (wn_c wd_22 (wn_c wd_21 (wn_c wd_430 (wn_c wd_429 wn_0)))))))))))))))))))))))
theorem wl_X11_see_r11 : GoodIn lw_tbl wsX11_see_r11 := by
  unfold wsX11_see_r11
  exact wn_c wd_463 (wn_c wd_15 (wn_c wd_462 (wn_c wd_461 (wn_c wd_460 (wn_c wd_71 (wn_c wd_459 (wn_c wd_87 (wn_c wd_458 (wn_c wd_457 (wn_c wd_456 (wn_c wd_455 (wn_c wd_151 (wn_c wd_454 (wn_c wd_453 (wn_c wd_452 (wn_c wd_451 (wn_c wd_450 (wn_c wd_449 (wn_c wd_57 (wn_c wd_56 (wn_c wd_55 (wn_c wd_54 (wn_c wd_448 wn_0)))))))))))))))))))))))
theorem wl_X11_see_r12 : GoodIn lw_tbl wsX11_see_r12 := by
  unfold wsX11_see_r12
  exact wn_c wd_487 (wn_c wd_486 (wn_c wd_485 (wn_c wd_484 (wn_c wd_483 (wn_c wd_482 (wn_c wd_481 (wn_c wd_480 (wn_c wd_479 (wn_c wd_478 (wn_c wd_477 (wn_c wd_476 (wn_c wd_475 (wn_c wd_474 (wn_c wd_473 (wn_c wd_472 (wn_c wd_471 (wn_c wd_470 (wn_c wd_469 (wn_c wd_468 (wn_c wd_467 (wn_c wd_466 (wn_c wd_465 (wn_c wd_464 wn_0)))))))))))))))))))))))
theorem wl_X11_see_r13 : GoodIn lw_tbl wsX11_see_r13 := by
  unfold wsX11_see_r13
  exact wn_c wd_511 (wn_c wd_510 (wn_c wd_509 (wn_c wd_508 (wn_c wd_507 (wn_c wd_506 (wn_c wd_505 (wn_c wd_504 (wn_c wd_503 (wn_c wd_502 (wn_c wd_501 (wn_c wd_500 (wn_c wd_499 (wn_c wd_498 (wn_c wd_497 (wn_c wd_496 (wn_c wd_495 (wn_c wd_494 (wn_c wd_493 (wn_c wd_492 (wn_c wd_491 (wn_c wd_490 (wn_c wd_489 (wn_c wd_488 wn_0)))))))))))))))))))))))
theorem wl_X11_see_r14 : GoodIn lw_tbl wsX11_see_r14 := by
  unfold wsX11_see_r14
  exact wn_c wd_535 (wn_c wd_534 (wn_c wd_533 (wn_c wd_532 (wn_c wd_531 (wn_c wd_530 (wn_c wd_529 (wn_c wd_528 (wn_c wd_527 (wn_c wd_526 (wn_c wd_525 (wn_c wd_524 (wn_c wd_523 (wn_c wd_522 (wn_c wd_521 (wn_c wd_520 (wn_c wd_519 (wn_c wd_518 (wn_c wd_517 (wn_c wd_516 (wn_c wd_515 (wn_c wd_514 (wn_c wd_513 (wn_c wd_512 wn_0)))))))))))))))))))))))
theorem wl_X11_see_r15 : GoodIn lw_tbl wsX11_see_r15 := by
  unfold wsX11_see_r15
  exact wn_c wd_559 (wn_c wd_558 (wn_c wd_557 (wn_c wd_556 (wn_c wd_555 (wn_c wd_554 (wn_c wd_553 (wn_c wd_552 (wn_c wd_551 (wn_c wd_550 (wn_c wd_549 (wn_c wd_548 (wn_c wd_547 (wn_c wd_546 (wn_c wd_545 (wn_c wd_544 (wn_c wd_543 (wn_c wd_542 (wn_c wd_541 (wn_c wd_540 (wn_c wd_539 (wn_c wd_538 (wn_c wd_537 (wn_c wd_536 wn_0)))))))))))))))))))))))
theorem wl_X11_see_r16 : GoodIn lw_tbl wsX11_see_r16 := by
  unfold wsX11_see_r16
  exact wn_c wd_583 (wn_c wd_582 (wn_c wd_581 (wn_c wd_580 (wn_c wd_579 (wn_c wd_578 (wn_c wd_577 (wn_c wd_576 (wn_c wd_575 (wn_c wd_574 (wn_c wd_573 (wn_c wd_572 (wn_c wd_571 (wn_c wd_570 (wn_c wd_569 (wn_c wd_568 (wn_c wd_567 (wn_c wd_566 (wn_c wd_565 (wn_c wd_564 (wn_c wd_563 (wn_c wd_562 (wn_c wd_561 (wn_c wd_560 wn_0)))))))))))))))))))))))
theorem wl_X11_see_r17 : GoodIn lw_tbl wsX11_see_r17 := by
  unfold wsX11_see_r17
  exact wn_c wd_607 (wn_c wd_606 (wn_c wd_605 (wn_c wd_604 (wn_c wd_603 (wn_c wd_602 (wn_c wd_601 (wn_c wd_600 (wn_c wd_599 (wn_c wd_598 (wn_c wd_597 (wn_c wd_596 (wn_c wd_595 (wn_c wd_594 (wn_c wd_593 (wn_c wd_592 (wn_c wd_591 (wn_c wd_590 (wn_c wd_589 (wn_c wd_588 (wn_c wd_587 (wn_c wd_586 (wn_c wd_585 (wn_c wd_584 wn_0)))))))))))))))))))))))
theorem wl_X11_see_r18 : GoodIn lw_tbl wsX11_see_r18 := by
  unfold wsX11_see_r18
  exact wn_c wd_629 (wn_c wd_628 (wn_c wd_627 (wn_c wd_626 (wn_c wd_625 (wn_c wd_624 (wn_c wd_623 (wn_c wd_622 (wn_c wd_621 (wn_c wd_620 (wn_c wd_619 (wn_c wd_618 (wn_c wd_617 (wn_c wd_616 (wn_c wd_615 (wn_c wd_614 (wn_c wd_613 (wn_c wd_612 (wn_c wd_611 (wn_c wd_610 (wn_c wd_609 (wn_c wd_76 (wn_c wd_74 (wn_c wd_608 wn_0)))))))))))))))))))))))
theorem wl_X11_see_r19 : GoodIn lw_tbl wsX11_see_r19 := by
  unfold wsX11_see_r19
  exact wn_c wd_641 (wn_c wd_640 (wn_c wd_639 (wn_c wd_638 (wn_c wd_637 (wn_c wd_636 (wn_c wd_635 (wn_c wd_634 (wn_c wd_633 (wn_c wd_632 (wn_c wd_631 (wn_c wd_630 (wn_c wd_75 wn_0))))))))))))
theorem wl_X11_see : GoodIn lw_tbl wsX11_see := by
  unfold wsX11_see
  exact wn_c wd_642 (wn_a (wn_a (wn_a (wn_a (wn_a (wn_a (wn_a (wn_a (wn_a (wn_a (wn_a (wl_X11_see_r1) (wn_a (wl_X11_see_r2) (wn_a (wl_X11_see_r3) (wn_a (wl_X11_see_r4) (wn_a (wl_X11_see_r5) (wn_a (wl_X11_see_r6) (wn_a (wl_X11_see_r7) (wn_a (wl_X11_see_r8) (wn_a (wl_X11_see_r9) (wn_a (wl_X11_see_r10) (wn_a (wl_X11_see_r11) (wn_a (wl_X11_see_r12) (wn_a (wl_X11_see_r13) (wn_a (wl_X11_see_r14) (wn_a (wl_X11_see_r15) (wn_a (wl_X11_see_r16) (wn_a (wl_X11_see_r17) (wn_a (wl_X11_see_r18) (wl_X11_see_r19))))))))))))))))))) (wt_11)) (wt_8)) (wt_7)) (wt_1)) (wt_10)) (wt_3)) (wt_6)) (wt_0)) (wt_2)) (wt_5))
theorem wl_X12_see_r1 : GoodIn lw_tbl wsX12_see_r1 := by
  unfold wsX12_see_r1
  exact wn_c wd_659 (wn_c wd_140 (wn_c wd_658 (wn_c wd_657 (wn_c wd_656 (wn_c wd_177 (wn_c wd_176 (wn_c wd_175 (wn_c wd_174 (wn_c wd_655 (wn_c wd_654 (wn_c wd_653 (wn_c wd_652 (wn_c wd_651 (wn_c wd_145 (wn_c wd_650 (wn_c wd_649 (wn_c wd_648 (wn_c wd_647 (wn_c wd_138 (wn_c wd_178 (wn_c wd_142 (wn_c wd_139 (wn_c wd_646 wn_0)))))))))))))))))))))))
theorem wl_X12_see_r2 : GoodIn lw_tbl wsX12_see_r2 := by
  unfold wsX12_see_r2
  exact wn_c wd_682 (wn_c wd_681 (wn_c wd_680 (wn_c wd_679 (wn_c wd_678 (wn_c wd_677 (wn_c wd_676 (wn_c wd_675 (wn_c wd_674 (wn_c wd_673 (wn_c wd_672 (wn_c wd_671 (wn_c wd_670 (wn_c wd_669 (wn_c wd_668 (wn_c wd_667 (wn_c wd_666 (wn_c wd_665 (wn_c wd_664 (wn_c wd_663 (wn_c wd_137 (wn_c wd_662 (wn_c wd_661 (wn_c wd_660 wn_0)))))))))))))))))))))))
theorem wl_X12_see_r3 : GoodIn lw_tbl wsX12_see_r3 := by
  unfold wsX12_see_r3
  exact wn_c wd_705 (wn_c wd_141 (wn_c wd_704 (wn_c wd_703 (wn_c wd_702 (wn_c wd_701 (wn_c wd_700 (wn_c wd_699 (wn_c wd_698 (wn_c wd_697 (wn_c wd_696 (wn_c wd_695 (wn_c wd_694 (wn_c wd_693 (wn_c wd_692 (wn_c wd_691 (wn_c wd_690 (wn_c wd_689 (wn_c wd_688 (wn_c wd_687 (wn_c wd_686 (wn_c wd_685 (wn_c wd_684 (wn_c wd_683 wn_0)))))))))))))))))))))))
theorem wl_X12_see_r4 : GoodIn lw_tbl wsX12_see_r4 := by
  unfold wsX12_see_r4
  exact wn_c wd_718 (wn_c wd_717 (wn_c wd_136 (wn_c wd_135 (wn_c wd_134 (wn_c wd_133 (wn_c wd_716 (wn_c wd_715 (wn_c wd_714 (wn_c wd_713 (wn_c wd_712 (wn_c wd_132 (wn_c wd_129 (wn_c wd_128 (wn_c wd_130 (wn_c wd_131 (wn_c wd_711 (wn_c wd_127 (wn_c wd_126 (wn_c wd_710 (wn_c wd_709 (wn_c wd_708 (wn_c wd_707 (wn_c wd_706 wn_0)))))))))))))))))))))))
theorem wl_X12_see_r5 : GoodIn lw_tbl wsX12_see_r5 := by
  unfold wsX12_see_r5
  exact wn_c wd_739 (wn_c wd_738 (wn_c wd_737 (wn_c wd_736 (wn_c wd_735 (wn_c wd_734 (wn_c wd_733 (wn_c wd_144 (wn_c wd_732 (wn_c wd_731 (wn_c wd_730 (wn_c wd_729 (wn_c wd_143 (wn_c wd_728 (wn_c wd_727 (wn_c wd_726 (wn_c wd_725 (wn_c wd_724 (wn_c wd_723 (wn_c wd_722 (wn_c wd_721 (wn_c wd_153 (wn_c wd_720 (wn_c wd_719 wn_0)))))))))))))))))))))))
theorem wl_X12_see_r6 : GoodIn lw_tbl wsX12_see_r6 := by
  unfold wsX12_see_r6
  exact wn_c wd_762 (wn_c wd_761 (wn_c wd_760 (wn_c wd_759 (wn_c wd_758 (wn_c wd_757 (wn_c wd_756 (wn_c wd_755 (wn_c wd_754 (wn_c wd_753 (wn_c wd_752 (wn_c wd_751 (wn_c wd_750 (wn_c wd_749 (wn_c wd_748 (wn_c wd_747 (wn_c wd_746 (wn_c wd_745 (wn_c wd_744 (wn_c wd_743 (wn_c wd_742 (wn_c wd_741 (wn_c wd_152 (wn_c wd_740 wn_0)))))))))))))))))))))))
theorem wl_X12_see_r7 : GoodIn lw_tbl wsX12_see_r7 := by
  unfold wsX12_see_r7
  exact wn_c wd_765 (wn_c wd_764 (wn_c wd_763 wn_0))
theorem wl_X12_see : GoodIn lw_tbl wsX12_see := by
  unfold wsX12_see
  exact wn_c wd_766 (wn_a (wn_a (wl_X12_see_r1) (wn_a (wl_X12_see_r2) (wn_a (wl_X12_see_r3) (wn_a (wl_X12_see_r4) (wn_a (wl_X12_see_r5) (wn_a (wl_X12_see_r6) (wl_X12_see_r7))))))) (wt_12))
theorem wl_X11_seen : GoodIn lw_tbl wsX11_seen := by
  unfold wsX11_seen
  exact wn_c wd_774 (wn_a (wn_c wd_164 (wn_c wd_773 (wn_c wd_772 (wn_c wd_771 (wn_c wd_166 (wn_c wd_770 wn_0)))))) (wt_11))
theorem wl_X12_seen : GoodIn lw_tbl wsX12_seen := by
  unfold wsX12_seen
  exact wn_c wd_778 (wn_a (wn_c wd_140 wn_0) (wt_12))
theorem wl_X11_least : GoodIn lw_tbl wsX11_least := by
  unfold wsX11_least
  exact wn_c wd_783 (wn_a (wn_a (wn_c wd_7 (wn_c wd_782 (wn_c wd_773 (wn_c wd_772 (wn_c wd_771 (wn_c wd_166 (wn_c wd_770 (wn_c wd_164 wn_0)))))))) (wt_11)) (wt_1))
theorem wl_X12_least : GoodIn lw_tbl wsX12_least := by
  unfold wsX12_least
  exact wn_c wd_787 (wn_a (wn_c wd_140 (wn_c wd_658 (wn_c wd_700 (wn_c wd_699 (wn_c wd_698 (wn_c wd_175 (wn_c wd_697 (wn_c wd_138 wn_0)))))))) (wt_12))
theorem wl_X11_rule_r1 : GoodIn lw_tbl wsX11_rule_r1 := by
  unfold wsX11_rule_r1
  exact wn_c wd_3 (wn_c wd_773 (wn_c wd_772 (wn_c wd_771 (wn_c wd_166 (wn_c wd_770 (wn_c wd_164 (wn_c wd_796 (wn_c wd_795 (wn_c wd_794 (wn_c wd_4 (wn_c wd_793 (wn_c wd_320 (wn_c wd_792 (wn_c wd_357 (wn_c wd_356 (wn_c wd_355 (wn_c wd_89 (wn_c wd_88 (wn_c wd_791 (wn_c wd_438 (wn_c wd_437 (wn_c wd_436 (wn_c wd_86 wn_0)))))))))))))))))))))))
theorem wl_X11_rule_r2 : GoodIn lw_tbl wsX11_rule_r2 := by
  unfold wsX11_rule_r2
  exact wn_c wd_85 wn_0
theorem wl_X11_rule : GoodIn lw_tbl wsX11_rule := by
  unfold wsX11_rule
  exact wn_c wd_797 (wn_a (wn_a (wn_a (wl_X11_rule_r1) (wl_X11_rule_r2)) (wt_11)) (wt_7))
theorem wl_X12_rule : GoodIn lw_tbl wsX12_rule := by
  unfold wsX12_rule
  exact wn_c wd_801 (wn_a (wn_c wd_140 (wn_c wd_656 (wn_c wd_136 (wn_c wd_134 (wn_c wd_135 (wn_c wd_133 (wn_c wd_177 (wn_c wd_176 (wn_c wd_175 (wn_c wd_174 wn_0)))))))))) (wt_12))
theorem wl_X11_closed : GoodIn lw_tbl wsX11_closed := by
  unfold wsX11_closed
  exact wn_c wd_805 (wn_a (wn_c wd_163 (wn_c wd_773 (wn_c wd_772 (wn_c wd_771 (wn_c wd_166 (wn_c wd_770 (wn_c wd_164 wn_0))))))) (wt_11))
theorem wl_X12_closed : GoodIn lw_tbl wsX12_closed := by
  unfold wsX12_closed
  exact wn_c wd_809 (wn_a (wn_c wd_140 (wn_c wd_657 wn_0)) (wt_12))
theorem wl_X11_reduce_r1 : GoodIn lw_tbl wsX11_reduce_r1 := by
  unfold wsX11_reduce_r1
  exact wn_c wd_12 (wn_c wd_42 (wn_c wd_219 (wn_c wd_218 (wn_c wd_217 (wn_c wd_166 (wn_c wd_216 (wn_c wd_819 (wn_c wd_818 (wn_c wd_817 (wn_c wd_816 (wn_c wd_163 (wn_c wd_192 (wn_c wd_164 (wn_c wd_17 (wn_c wd_7 (wn_c wd_43 (wn_c wd_773 (wn_c wd_772 (wn_c wd_771 (wn_c wd_770 (wn_c wd_815 (wn_c wd_814 (wn_c wd_813 wn_0)))))))))))))))))))))))
theorem wl_X11_reduce_r2 : GoodIn lw_tbl wsX11_reduce_r2 := by
  unfold wsX11_reduce_r2
  exact wn_c wd_18 (wn_c wd_824 (wn_c wd_297 (wn_c wd_373 (wn_c wd_304 (wn_c wd_303 (wn_c wd_302 (wn_c wd_59 (wn_c wd_69 (wn_c wd_823 (wn_c wd_300 (wn_c wd_299 (wn_c wd_298 (wn_c wd_60 (wn_c wd_296 (wn_c wd_822 (wn_c wd_332 (wn_c wd_331 (wn_c wd_8 (wn_c wd_330 (wn_c wd_288 (wn_c wd_48 (wn_c wd_821 (wn_c wd_820 wn_0)))))))))))))))))))))))
theorem wl_X11_reduce_r3 : GoodIn lw_tbl wsX11_reduce_r3 := by
  unfold wsX11_reduce_r3
  exact wn_c wd_830 (wn_c wd_829 (wn_c wd_828 (wn_c wd_339 (wn_c wd_338 (wn_c wd_337 (wn_c wd_336 (wn_c wd_343 (wn_c wd_342 (wn_c wd_341 (wn_c wd_827 (wn_c wd_158 (wn_c wd_157 (wn_c wd_14 (wn_c wd_156 (wn_c wd_155 (wn_c wd_826 (wn_c wd_186 (wn_c wd_185 (wn_c wd_184 (wn_c wd_53 (wn_c wd_825 (wn_c wd_427 (wn_c wd_426 wn_0)))))))))))))))))))))))
theorem wl_X11_reduce_r4 : GoodIn lw_tbl wsX11_reduce_r4 := by
  unfold wsX11_reduce_r4
  exact wn_c wd_44 (wn_c wd_425 (wn_c wd_424 (wn_c wd_423 (wn_c wd_422 (wn_c wd_210 (wn_c wd_62 (wn_c wd_209 (wn_c wd_115 (wn_c wd_421 (wn_c wd_377 (wn_c wd_420 (wn_c wd_419 (wn_c wd_418 (wn_c wd_117 (wn_c wd_116 (wn_c wd_417 (wn_c wd_416 (wn_c wd_415 (wn_c wd_414 (wn_c wd_413 (wn_c wd_114 (wn_c wd_412 (wn_c wd_447 wn_0)))))))))))))))))))))))
theorem wl_X11_reduce_r5 : GoodIn lw_tbl wsX11_reduce_r5 := by
  unfold wsX11_reduce_r5
  exact wn_c wd_446 (wn_c wd_0 (wn_c wd_445 (wn_c wd_80 (wn_c wd_366 (wn_c wd_368 (wn_c wd_77 (wn_c wd_444 (wn_c wd_443 (wn_c wd_442 (wn_c wd_441 (wn_c wd_440 (wn_c wd_357 (wn_c wd_356 (wn_c wd_4 (wn_c wd_355 (wn_c wd_89 (wn_c wd_88 (wn_c wd_439 (wn_c wd_438 (wn_c wd_437 (wn_c wd_436 (wn_c wd_86 (wn_c wd_85 wn_0)))))))))))))))))))))))
theorem wl_X11_reduce_r6 : GoodIn lw_tbl wsX11_reduce_r6 := by
  unfold wsX11_reduce_r6
  exact wn_c wd_435 (wn_c wd_434 (wn_c wd_433 (wn_c wd_432 (wn_c wd_431 (wn_c wd_22 (wn_c wd_21 (wn_c wd_430 (wn_c wd_429 (wn_c wd_463 (wn_c wd_15 (wn_c wd_462 (wn_c wd_461 (wn_c wd_460 (wn_c wd_71 (wn_c wd_459 (wn_c wd_87 (wn_c wd_458 (wn_c wd_457 (wn_c wd_456 (wn_c wd_455 (wn_c wd_151 (wn_c wd_454 (wn_c wd_453 wn_0)))))))))))))))))))))))
theorem wl_X11_reduce_r7 : GoodIn lw_tbl wsX11_reduce_r7 := by
  unfold wsX11_reduce_r7
  exact wn_c wd_452 (wn_c wd_451 (wn_c wd_410 (wn_c wd_450 (wn_c wd_449 (wn_c wd_57 (wn_c wd_56 (wn_c wd_55 (wn_c wd_54 (wn_c wd_63 (wn_c wd_61 (wn_c wd_448 (wn_c wd_487 (wn_c wd_486 (wn_c wd_485 (wn_c wd_484 (wn_c wd_483 (wn_c wd_482 (wn_c wd_481 (wn_c wd_480 (wn_c wd_408 (wn_c wd_479 (wn_c wd_478 (wn_c wd_477 wn_0)))))))))))))))))))))))
theorem wl_X11_reduce_r8 : GoodIn lw_tbl wsX11_reduce_r8 := by
  unfold wsX11_reduce_r8
  exact wn_c wd_407 (wn_c wd_476 (wn_c wd_475 (wn_c wd_474 (wn_c wd_473 (wn_c wd_472 (wn_c wd_471 (wn_c wd_470 (wn_c wd_469 (wn_c wd_468 (wn_c wd_467 (wn_c wd_466 (wn_c wd_465 (wn_c wd_464 (wn_c wd_511 (wn_c wd_510 (wn_c wd_509 (wn_c wd_508 (wn_c wd_507 (wn_c wd_506 (wn_c wd_505 (wn_c wd_504 (wn_c wd_503 (wn_c wd_502 wn_0)))))))))))))))))))))))
theorem wl_X11_reduce_r9 : GoodIn lw_tbl wsX11_reduce_r9 := by
  unfold wsX11_reduce_r9
  exact wn_c wd_501 (wn_c wd_500 (wn_c wd_499 (wn_c wd_498 (wn_c wd_497 (wn_c wd_496 (wn_c wd_495 (wn_c wd_494 (wn_c wd_493 (wn_c wd_492 (wn_c wd_491 (wn_c wd_490 (wn_c wd_489 (wn_c wd_488 (wn_c wd_535 (wn_c wd_534 (wn_c wd_533 (wn_c wd_532 (wn_c wd_531 (wn_c wd_530 (wn_c wd_529 (wn_c wd_528 (wn_c wd_527 (wn_c wd_526 wn_0)))))))))))))))))))))))
theorem wl_X11_reduce_r10 : GoodIn lw_tbl wsX11_reduce_r10 := by
  unfold wsX11_reduce_r10
  exact wn_c wd_525 (wn_c wd_524 (wn_c wd_523 (wn_c wd_522 (wn_c wd_521 (wn_c wd_520 (wn_c wd_519 (wn_c wd_518 (wn_c wd_517 (wn_c wd_516 (wn_c wd_515 (wn_c wd_514 (wn_c wd_513 (wn_c wd_512 (wn_c wd_559 (wn_c wd_558 (wn_c wd_557 (wn_c wd_556 (wn_c wd_555 (wn_c wd_554 (wn_c wd_553 (wn_c wd_552 (wn_c wd_214 (wn_c wd_213 wn_0)))))))))))))))))))))))
theorem wl_X11_reduce_r11 : GoodIn lw_tbl wsX11_reduce_r11 := by
  unfold wsX11_reduce_r11
  exact wn_c wd_212 (wn_c wd_211 (wn_c wd_551 (wn_c wd_550 (wn_c wd_549 (wn_c wd_548 (wn_c wd_547 (wn_c wd_546 (wn_c wd_545 (wn_c wd_544 (wn_c wd_543 (wn_c wd_542 (wn_c wd_541 (wn_c wd_540 (wn_c wd_539 (wn_c wd_538 (wn_c wd_537 (wn_c wd_536 (wn_c wd_583 (wn_c wd_582 (wn_c wd_581 (wn_c wd_580 (wn_c wd_579 (wn_c wd_578 wn_0)))))))))))))))))))))))
theorem wl_X11_reduce_r12 : GoodIn lw_tbl wsX11_reduce_r12 := by
  unfold wsX11_reduce_r12
  exact wn_c wd_577 (wn_c wd_576 (wn_c wd_575 (wn_c wd_574 (wn_c wd_573 (wn_c wd_572 (wn_c wd_571 (wn_c wd_570 (wn_c wd_569 (wn_c wd_568 (wn_c wd_567 (wn_c wd_566 (wn_c wd_565 (wn_c wd_564 (wn_c wd_563 (wn_c wd_562 (wn_c wd_561 (wn_c wd_560 (wn_c wd_607 (wn_c wd_606 (wn_c wd_605 (wn_c wd_604 (wn_c wd_603 (wn_c wd_602 wn_0)))))))))))))))))))))))
theorem wl_X11_reduce_r13 : GoodIn lw_tbl wsX11_reduce_r13 := by
  unfold wsX11_reduce_r13
  exact wn_c wd_601 (wn_c wd_600 (wn_c wd_599 (wn_c wd_598 (wn_c wd_597 (wn_c wd_596 (wn_c wd_595 (wn_c wd_594 (wn_c wd_593 (wn_c wd_592 (wn_c wd_591 (wn_c wd_590 (wn_c wd_215 wn_0))))))))))))
theorem wl_X11_reduce : GoodIn lw_tbl wsX11_reduce := by
  unfold wsX11_reduce
  exact wn_c wd_831 (wn_a (wn_a (wn_a (wn_a (wn_a (wn_a (wn_a (wn_a (wn_a (wn_a (wl_X11_reduce_r1) (wn_a (wl_X11_reduce_r2) (wn_a (wl_X11_reduce_r3) (wn_a (wl_X11_reduce_r4) (wn_a (wl_X11_reduce_r5) (wn_a (wl_X11_reduce_r6) (wn_a (wl_X11_reduce_r7) (wn_a (wl_X11_reduce_r8) (wn_a (wl_X11_reduce_r9) (wn_a (wl_X11_reduce_r10) (wn_a (wl_X11_reduce_r11) (wn_a (wl_X11_reduce_r12) (wl_X11_reduce_r13))))))))))))) (wt_11)) (wt_10)) (wt_8)) (wt_1)) (wt_6)) (wt_0)) (wt_3)) (wt_7)) (wt_2))
theorem wl_X12_reduce_r1 : GoodIn lw_tbl wsX12_reduce_r1 := by
  unfold wsX12_reduce_r1
  exact wn_c wd_144 (wn_c wd_231 (wn_c wd_230 (wn_c wd_175 (wn_c wd_229 (wn_c wd_228 (wn_c wd_177 (wn_c wd_176 (wn_c wd_174 (wn_c wd_838 (wn_c wd_837 (wn_c wd_836 (wn_c wd_835 (wn_c wd_140 (wn_c wd_657 (wn_c wd_145 (wn_c wd_143 (wn_c wd_139 (wn_c wd_646 (wn_c wd_137 (wn_c wd_227 (wn_c wd_226 (wn_c wd_225 (wn_c wd_224 wn_0)))))))))))))))))))))))
theorem wl_X12_reduce_r2 : GoodIn lw_tbl wsX12_reduce_r2 := by
  unfold wsX12_reduce_r2
  exact wn_c wd_724 (wn_c wd_723 (wn_c wd_722 (wn_c wd_721 (wn_c wd_153 (wn_c wd_131 (wn_c wd_129 (wn_c wd_136 (wn_c wd_134 (wn_c wd_133 (wn_c wd_674 (wn_c wd_673 (wn_c wd_672 (wn_c wd_671 (wn_c wd_138 (wn_c wd_696 (wn_c wd_695 (wn_c wd_694 (wn_c wd_693 (wn_c wd_666 (wn_c wd_665 (wn_c wd_664 (wn_c wd_663 wn_0))))))))))))))))))))))
theorem wl_X12_reduce : GoodIn lw_tbl wsX12_reduce := by
  unfold wsX12_reduce
  exact wn_c wd_839 (wn_a (wn_a (wl_X12_reduce_r1) (wl_X12_reduce_r2)) (wt_12))
theorem wl_X11_like_r1 : GoodIn lw_tbl wsX11_like_r1 := by
  unfold wsX11_like_r1
  exact wn_c wd_12 (wn_c wd_42 (wn_c wd_41 (wn_c wd_219 (wn_c wd_218 (wn_c wd_217 (wn_c wd_166 (wn_c wd_216 (wn_c wd_819 (wn_c wd_818 (wn_c wd_817 (wn_c wd_816 (wn_c wd_163 (wn_c wd_192 (wn_c wd_164 (wn_c wd_17 (wn_c wd_7 (wn_c wd_43 (wn_c wd_773 (wn_c wd_772 (wn_c wd_771 (wn_c wd_770 (wn_c wd_815 (wn_c wd_814 wn_0)))))))))))))))))))))))
theorem wl_X11_like_r2 : GoodIn lw_tbl wsX11_like_r2 := by
  unfold wsX11_like_r2
  exact wn_c wd_813 (wn_c wd_18 (wn_c wd_824 (wn_c wd_297 (wn_c wd_373 (wn_c wd_304 (wn_c wd_303 (wn_c wd_302 (wn_c wd_59 (wn_c wd_69 (wn_c wd_823 (wn_c wd_300 (wn_c wd_299 (wn_c wd_298 (wn_c wd_60 (wn_c wd_296 (wn_c wd_822 (wn_c wd_332 (wn_c wd_331 (wn_c wd_8 (wn_c wd_330 (wn_c wd_288 (wn_c wd_48 (wn_c wd_821 wn_0)))))))))))))))))))))))
theorem wl_X11_like_r3 : GoodIn lw_tbl wsX11_like_r3 := by
  unfold wsX11_like_r3
  exact wn_c wd_820 (wn_c wd_830 (wn_c wd_829 (wn_c wd_828 (wn_c wd_339 (wn_c wd_338 (wn_c wd_337 (wn_c wd_336 (wn_c wd_343 (wn_c wd_342 (wn_c wd_341 (wn_c wd_827 (wn_c wd_158 (wn_c wd_157 (wn_c wd_14 (wn_c wd_156 (wn_c wd_155 (wn_c wd_826 (wn_c wd_186 (wn_c wd_185 (wn_c wd_184 (wn_c wd_53 (wn_c wd_825 (wn_c wd_427 wn_0)))))))))))))))))))))))
theorem wl_X11_like_r4 : GoodIn lw_tbl wsX11_like_r4 := by
  unfold wsX11_like_r4
  exact wn_c wd_426 (wn_c wd_44 (wn_c wd_425 (wn_c wd_424 (wn_c wd_423 (wn_c wd_422 (wn_c wd_210 (wn_c wd_62 (wn_c wd_209 (wn_c wd_115 (wn_c wd_421 (wn_c wd_377 (wn_c wd_420 (wn_c wd_419 (wn_c wd_418 (wn_c wd_117 (wn_c wd_116 (wn_c wd_417 (wn_c wd_416 (wn_c wd_415 (wn_c wd_414 (wn_c wd_413 (wn_c wd_114 (wn_c wd_412 wn_0)))))))))))))))))))))))
theorem wl_X11_like_r5 : GoodIn lw_tbl wsX11_like_r5 := by
  unfold wsX11_like_r5
  exact wn_c wd_447 (wn_c wd_446 (wn_c wd_0 (wn_c wd_445 (wn_c wd_80 (wn_c wd_366 (wn_c wd_368 (wn_c wd_77 (wn_c wd_444 (wn_c wd_443 (wn_c wd_442 (wn_c wd_441 (wn_c wd_440 (wn_c wd_357 (wn_c wd_356 (wn_c wd_4 (wn_c wd_355 (wn_c wd_89 (wn_c wd_88 (wn_c wd_439 (wn_c wd_438 (wn_c wd_437 (wn_c wd_436 (wn_c wd_86 wn_0)))))))))))))))))))))))
theorem wl_X11_like_r6 : GoodIn lw_tbl wsX11_like_r6 := by
  unfold wsX11_like_r6
  exact wn_c wd_85 (wn_c wd_435 (wn_c wd_434 (wn_c wd_433 (wn_c wd_432 (wn_c wd_431 (wn_c wd_22 (wn_c wd_21 (wn_c wd_430 (wn_c wd_429 (wn_c wd_463 (wn_c wd_15 (wn_c wd_462 (wn_c wd_461 (wn_c wd_460 (wn_c wd_71 (wn_c wd_459 (wn_c wd_87 (wn_c wd_458 (wn_c wd_457 (wn_c wd_456 (wn_c wd_455 (wn_c wd_151 (wn_c wd_454 wn_0)))))))))))))))))))))))
theorem wl_X11_like_r7 : GoodIn lw_tbl wsX11_like_r7 := by
  unfold wsX11_like_r7
  exact wn_c wd_453 (wn_c wd_452 (wn_c wd_451 (wn_c wd_410 (wn_c wd_450 (wn_c wd_449 (wn_c wd_57 (wn_c wd_56 (wn_c wd_55 (wn_c wd_54 (wn_c wd_63 (wn_c wd_61 (wn_c wd_448 (wn_c wd_487 (wn_c wd_486 (wn_c wd_485 (wn_c wd_484 (wn_c wd_483 (wn_c wd_482 (wn_c wd_481 (wn_c wd_480 (wn_c wd_408 (wn_c wd_479 (wn_c wd_478 wn_0)))))))))))))))))))))))
theorem wl_X11_like_r8 : GoodIn lw_tbl wsX11_like_r8 := by
  unfold wsX11_like_r8
  exact wn_c wd_477 (wn_c wd_407 (wn_c wd_476 (wn_c wd_475 (wn_c wd_474 (wn_c wd_473 (wn_c wd_472 (wn_c wd_471 (wn_c wd_470 (wn_c wd_469 (wn_c wd_468 (wn_c wd_467 (wn_c wd_466 (wn_c wd_465 (wn_c wd_464 (wn_c wd_511 (wn_c wd_510 (wn_c wd_509 (wn_c wd_508 (wn_c wd_507 (wn_c wd_506 (wn_c wd_505 (wn_c wd_504 (wn_c wd_503 wn_0)))))))))))))))))))))))
theorem wl_X11_like_r9 : GoodIn lw_tbl wsX11_like_r9 := by
  unfold wsX11_like_r9
  exact wn_c wd_502 (wn_c wd_501 (wn_c wd_500 (wn_c wd_499 (wn_c wd_498 (wn_c wd_497 (wn_c wd_496 (wn_c wd_495 (wn_c wd_494 (wn_c wd_493 (wn_c wd_492 (wn_c wd_491 (wn_c wd_490 (wn_c wd_489 (wn_c wd_488 (wn_c wd_535 (wn_c wd_534 (wn_c wd_533 (wn_c wd_532 (wn_c wd_531 (wn_c wd_530 (wn_c wd_529 (wn_c wd_528 (wn_c wd_527 wn_0)))))))))))))))))))))))
theorem wl_X11_like_r10 : GoodIn lw_tbl wsX11_like_r10 := by
  unfold wsX11_like_r10
  exact wn_c wd_526 (wn_c wd_525 (wn_c wd_524 (wn_c wd_523 (wn_c wd_522 (wn_c wd_521 (wn_c wd_520 (wn_c wd_519 (wn_c wd_518 (wn_c wd_517 (wn_c wd_516 (wn_c wd_515 (wn_c wd_514 (wn_c wd_513 (wn_c wd_512 (wn_c wd_559 (wn_c wd_558 (wn_c wd_557 (wn_c wd_556 (wn_c wd_555 (wn_c wd_554 (wn_c wd_553 (wn_c wd_552 (wn_c wd_214 wn_0)))))))))))))))))))))))
theorem wl_X11_like_r11 : GoodIn lw_tbl wsX11_like_r11 := by
  unfold wsX11_like_r11
  exact wn_c wd_213 (wn_c wd_212 (wn_c wd_211 (wn_c wd_551 (wn_c wd_550 (wn_c wd_549 (wn_c wd_548 (wn_c wd_547 (wn_c wd_546 (wn_c wd_545 (wn_c wd_544 (wn_c wd_543 (wn_c wd_542 (wn_c wd_541 (wn_c wd_540 (wn_c wd_539 (wn_c wd_538 (wn_c wd_537 (wn_c wd_536 (wn_c wd_583 (wn_c wd_582 (wn_c wd_581 (wn_c wd_580 (wn_c wd_579 wn_0)))))))))))))))))))))))
theorem wl_X11_like_r12 : GoodIn lw_tbl wsX11_like_r12 := by
  unfold wsX11_like_r12
  exact wn_c wd_578 (wn_c wd_577 (wn_c wd_576 (wn_c wd_575 (wn_c wd_574 (wn_c wd_573 (wn_c wd_572 (wn_c wd_571 (wn_c wd_570 (wn_c wd_569 (wn_c wd_568 (wn_c wd_567 (wn_c wd_566 (wn_c wd_565 (wn_c wd_564 (wn_c wd_563 (wn_c wd_562 (wn_c wd_561 (wn_c wd_560 (wn_c wd_607 (wn_c wd_606 (wn_c wd_605 (wn_c wd_604 (wn_c wd_603 wn_0)))))))))))))))))))))))
theorem wl_X11_like_r13 : GoodIn lw_tbl wsX11_like_r13 := by
  unfold wsX11_like_r13
  exact wn_c wd_602 (wn_c wd_601 (wn_c wd_600 (wn_c wd_599 (wn_c wd_598 (wn_c wd_597 (wn_c wd_596 (wn_c wd_595 (wn_c wd_594 (wn_c wd_593 (wn_c wd_592 (wn_c wd_591 (wn_c wd_590 (wn_c wd_843 (wn_c wd_280 (wn_c wd_279 (wn_c wd_278 wn_0))))))))))))))))
theorem wl_X11_like : GoodIn lw_tbl wsX11_like := by
  unfold wsX11_like
  exact wn_c wd_844 (wn_a (wn_a (wn_a (wn_a (wn_a (wn_a (wn_a (wn_a (wn_a (wn_a (wl_X11_like_r1) (wn_a (wl_X11_like_r2) (wn_a (wl_X11_like_r3) (wn_a (wl_X11_like_r4) (wn_a (wl_X11_like_r5) (wn_a (wl_X11_like_r6) (wn_a (wl_X11_like_r7) (wn_a (wl_X11_like_r8) (wn_a (wl_X11_like_r9) (wn_a (wl_X11_like_r10) (wn_a (wl_X11_like_r11) (wn_a (wl_X11_like_r12) (wl_X11_like_r13))))))))))))) (wt_11)) (wt_10)) (wt_8)) (wt_1)) (wt_6)) (wt_0)) (wt_3)) (wt_7)) (wt_2))
theorem wl_X12_like_r1 : GoodIn lw_tbl wsX12_like_r1 := by
  unfold wsX12_like_r1
  exact wn_c wd_231 (wn_c wd_230 (wn_c wd_175 (wn_c wd_229 (wn_c wd_228 (wn_c wd_177 (wn_c wd_176 (wn_c wd_174 (wn_c wd_838 (wn_c wd_837 (wn_c wd_836 (wn_c wd_835 (wn_c wd_140 (wn_c wd_657 (wn_c wd_144 (wn_c wd_145 (wn_c wd_143 (wn_c wd_139 (wn_c wd_646 (wn_c wd_137 (wn_c wd_227 (wn_c wd_226 (wn_c wd_225 (wn_c wd_224 wn_0)))))))))))))))))))))))
theorem wl_X12_like_r2 : GoodIn lw_tbl wsX12_like_r2 := by
  unfold wsX12_like_r2
  exact wn_c wd_724 (wn_c wd_723 (wn_c wd_722 (wn_c wd_721 (wn_c wd_153 (wn_c wd_131 (wn_c wd_129 (wn_c wd_136 (wn_c wd_134 (wn_c wd_133 (wn_c wd_674 (wn_c wd_673 (wn_c wd_672 (wn_c wd_671 (wn_c wd_138 (wn_c wd_696 (wn_c wd_695 (wn_c wd_694 (wn_c wd_693 (wn_c wd_666 (wn_c wd_665 (wn_c wd_664 (wn_c wd_663 (wn_c wd_720 wn_0)))))))))))))))))))))))
theorem wl_X12_like_r3 : GoodIn lw_tbl wsX12_like_r3 := by
  unfold wsX12_like_r3
  exact wn_c wd_719 (wn_c wd_762 (wn_c wd_761 wn_0))
theorem wl_X12_like : GoodIn lw_tbl wsX12_like := by
  unfold wsX12_like
  exact wn_c wd_848 (wn_a (wn_a (wl_X12_like_r1) (wn_a (wl_X12_like_r2) (wl_X12_like_r3))) (wt_12))
theorem wl_X11_states : GoodIn lw_tbl wsX11_states := by
  unfold wsX11_states
  exact wn_c wd_857 (wn_a (wn_a (wn_c wd_47 (wn_c wd_856 (wn_c wd_855 (wn_c wd_854 (wn_c wd_853 (wn_c wd_166 (wn_c wd_852 (wn_c wd_163 (wn_c wd_773 (wn_c wd_772 (wn_c wd_771 (wn_c wd_770 (wn_c wd_164 wn_0))))))))))))) (wt_11)) (wt_3))
theorem wl_X12_states : GoodIn lw_tbl wsX12_states := by
  unfold wsX12_states
  exact wn_c wd_865 (wn_a (wn_c wd_711 (wn_c wd_864 (wn_c wd_863 (wn_c wd_862 (wn_c wd_175 (wn_c wd_861 (wn_c wd_140 (wn_c wd_657 wn_0)))))))) (wt_12))
theorem wl_X11_leads_r1 : GoodIn lw_tbl wsX11_leads_r1 := by
  unfold wsX11_leads_r1
  exact wn_c wd_47 (wn_c wd_855 (wn_c wd_854 (wn_c wd_853 (wn_c wd_166 (wn_c wd_852 (wn_c wd_163 (wn_c wd_773 (wn_c wd_772 (wn_c wd_771 (wn_c wd_770 (wn_c wd_164 (wn_c wd_872 (wn_c wd_871 (wn_c wd_870 (wn_c wd_0 (wn_c wd_869 (wn_c wd_368 (wn_c wd_191 (wn_c wd_190 (wn_c wd_189 (wn_c wd_188 (wn_c wd_17 (wn_c wd_162 wn_0)))))))))))))))))))))))
theorem wl_X11_leads_r2 : GoodIn lw_tbl wsX11_leads_r2 := by
  unfold wsX11_leads_r2
  exact wn_c wd_873 (wn_c wd_447 (wn_c wd_446 (wn_c wd_445 (wn_c wd_80 (wn_c wd_366 (wn_c wd_77 wn_0))))))
theorem wl_X11_leads : GoodIn lw_tbl wsX11_leads := by
  unfold wsX11_leads
  exact wn_c wd_874 (wn_a (wn_a (wn_a (wn_a (wl_X11_leads_r1) (wl_X11_leads_r2)) (wt_11)) (wt_3)) (wt_8))
theorem wl_X12_leads : GoodIn lw_tbl wsX12_leads := by
  unfold wsX12_leads
  exact wn_c wd_878 (wn_a (wn_c wd_711 (wn_c wd_145 (wn_c wd_864 (wn_c wd_863 (wn_c wd_862 (wn_c wd_175 (wn_c wd_861 (wn_c wd_140 (wn_c wd_657 (wn_c wd_177 (wn_c wd_176 (wn_c wd_174 (wn_c wd_740 (wn_c wd_765 (wn_c wd_764 (wn_c wd_763 (wn_c wd_131 (wn_c wd_126 (wn_c wd_129 (wn_c wd_127 wn_0)))))))))))))))))))) (wt_12))
theorem wl_X11_count : GoodIn lw_tbl wsX11_count := by
  unfold wsX11_count
  exact wn_c wd_885 (wn_a (wn_a (wn_c wd_884 (wn_c wd_47 (wn_c wd_883 (wn_c wd_882 (wn_c wd_855 (wn_c wd_854 (wn_c wd_853 (wn_c wd_166 (wn_c wd_852 (wn_c wd_163 (wn_c wd_773 (wn_c wd_772 (wn_c wd_771 (wn_c wd_770 (wn_c wd_164 wn_0))))))))))))))) (wt_11)) (wt_3))
theorem wl_X12_count : GoodIn lw_tbl wsX12_count := by
  unfold wsX12_count
  exact wn_c wd_892 (wn_a (wn_c wd_891 (wn_c wd_890 (wn_c wd_152 (wn_c wd_889 (wn_c wd_177 (wn_c wd_176 (wn_c wd_175 (wn_c wd_174 (wn_c wd_864 (wn_c wd_863 (wn_c wd_862 (wn_c wd_861 (wn_c wd_140 (wn_c wd_657 wn_0)))))))))))))) (wt_12))
theorem wl_X11_size : GoodIn lw_tbl wsX11_size := by
  unfold wsX11_size
  exact wn_c wd_903 (wn_a (wn_a (wn_c wd_882 (wn_c wd_47 (wn_c wd_902 (wn_c wd_901 (wn_c wd_883 (wn_c wd_900 (wn_c wd_855 (wn_c wd_854 (wn_c wd_853 (wn_c wd_166 (wn_c wd_852 (wn_c wd_163 (wn_c wd_773 (wn_c wd_772 (wn_c wd_771 (wn_c wd_770 (wn_c wd_164 (wn_c wd_899 (wn_c wd_898 (wn_c wd_897 (wn_c wd_0 (wn_c wd_896 (wn_c wd_74 wn_0))))))))))))))))))))))) (wt_11)) (wt_3))
theorem wl_X12_size_r1 : GoodIn lw_tbl wsX12_size_r1 := by
  unfold wsX12_size_r1
  exact wn_c wd_889 (wn_c wd_912 (wn_c wd_911 (wn_c wd_152 (wn_c wd_864 (wn_c wd_863 (wn_c wd_862 (wn_c wd_175 (wn_c wd_861 (wn_c wd_140 (wn_c wd_657 (wn_c wd_910 (wn_c wd_909 (wn_c wd_908 (wn_c wd_907 (wn_c wd_711 (wn_c wd_150 (wn_c wd_149 (wn_c wd_145 (wn_c wd_740 (wn_c wd_765 (wn_c wd_764 (wn_c wd_763 (wn_c wd_131 wn_0)))))))))))))))))))))))
theorem wl_X12_size_r2 : GoodIn lw_tbl wsX12_size_r2 := by
  unfold wsX12_size_r2
  exact wn_c wd_126 (wn_c wd_129 (wn_c wd_127 wn_0))
theorem wl_X12_size : GoodIn lw_tbl wsX12_size := by
  unfold wsX12_size
  exact wn_c wd_913 (wn_a (wn_a (wl_X12_size_r1) (wl_X12_size_r2)) (wt_12))
theorem wl_X11_nth_r1 : GoodIn lw_tbl wsX11_nth_r1 := by
  unfold wsX11_nth_r1
  exact wn_c wd_47 (wn_c wd_12 (wn_c wd_192 (wn_c wd_219 (wn_c wd_218 (wn_c wd_217 (wn_c wd_166 (wn_c wd_216 (wn_c wd_855 (wn_c wd_854 (wn_c wd_853 (wn_c wd_852 (wn_c wd_163 (wn_c wd_773 (wn_c wd_772 (wn_c wd_771 (wn_c wd_770 (wn_c wd_164 (wn_c wd_920 (wn_c wd_919 (wn_c wd_918 (wn_c wd_0 (wn_c wd_917 (wn_c wd_74 wn_0)))))))))))))))))))))))
theorem wl_X11_nth_r2 : GoodIn lw_tbl wsX11_nth_r2 := by
  unfold wsX11_nth_r2
  exact wn_c wd_80 (wn_c wd_366 (wn_c wd_926 (wn_c wd_63 (wn_c wd_62 (wn_c wd_61 (wn_c wd_925 (wn_c wd_158 (wn_c wd_157 (wn_c wd_14 (wn_c wd_156 (wn_c wd_155 (wn_c wd_924 (wn_c wd_923 (wn_c wd_922 (wn_c wd_921 (wn_c wd_368 (wn_c wd_76 (wn_c wd_633 (wn_c wd_632 (wn_c wd_631 (wn_c wd_630 (wn_c wd_75 (wn_c wd_634 wn_0)))))))))))))))))))))))
theorem wl_X11_nth_r3 : GoodIn lw_tbl wsX11_nth_r3 := by
  unfold wsX11_nth_r3
  exact wn_c wd_447 (wn_c wd_446 (wn_c wd_445 (wn_c wd_77 (wn_c wd_931 (wn_c wd_930 (wn_c wd_929 (wn_c wd_928 (wn_c wd_927 (wn_c wd_186 (wn_c wd_185 (wn_c wd_184 (wn_c wd_53 wn_0))))))))))))
theorem wl_X11_nth : GoodIn lw_tbl wsX11_nth := by
  unfold wsX11_nth
  exact wn_c wd_932 (wn_a (wn_a (wn_a (wn_a (wn_a (wl_X11_nth_r1) (wn_a (wl_X11_nth_r2) (wl_X11_nth_r3))) (wt_11)) (wt_10)) (wt_3)) (wt_8))
theorem wl_X12_nth_r1 : GoodIn lw_tbl wsX12_nth_r1 := by
  unfold wsX12_nth_r1
  exact wn_c wd_144 (wn_c wd_231 (wn_c wd_230 (wn_c wd_175 (wn_c wd_229 (wn_c wd_228 (wn_c wd_177 (wn_c wd_176 (wn_c wd_174 (wn_c wd_864 (wn_c wd_863 (wn_c wd_862 (wn_c wd_861 (wn_c wd_140 (wn_c wd_657 (wn_c wd_942 (wn_c wd_941 (wn_c wd_940 (wn_c wd_939 (wn_c wd_152 (wn_c wd_143 (wn_c wd_938 (wn_c wd_937 (wn_c wd_936 wn_0)))))))))))))))))))))))
theorem wl_X12_nth_r2 : GoodIn lw_tbl wsX12_nth_r2 := by
  unfold wsX12_nth_r2
  exact wn_c wd_943 (wn_c wd_740 (wn_c wd_765 (wn_c wd_764 (wn_c wd_763 (wn_c wd_131 (wn_c wd_126 (wn_c wd_129 (wn_c wd_127 (wn_c wd_227 (wn_c wd_226 (wn_c wd_225 (wn_c wd_224 wn_0))))))))))))
theorem wl_X12_nth : GoodIn lw_tbl wsX12_nth := by
  unfold wsX12_nth
  exact wn_c wd_944 (wn_a (wn_a (wl_X12_nth_r1) (wl_X12_nth_r2)) (wt_12))
theorem wl_X11_rank_r1 : GoodIn lw_tbl wsX11_rank_r1 := by
  unfold wsX11_rank_r1
  exact wn_c wd_948 (wn_c wd_882 (wn_c wd_43 (wn_c wd_12 (wn_c wd_42 (wn_c wd_192 (wn_c wd_900 (wn_c wd_47 (wn_c wd_219 (wn_c wd_218 (wn_c wd_217 (wn_c wd_166 (wn_c wd_216 (wn_c wd_855 (wn_c wd_854 (wn_c wd_853 (wn_c wd_852 (wn_c wd_163 (wn_c wd_773 (wn_c wd_772 (wn_c wd_771 (wn_c wd_770 (wn_c wd_164 (wn_c wd_825 wn_0)))))))))))))))))))))))
theorem wl_X11_rank_r2 : GoodIn lw_tbl wsX11_rank_r2 := by
  unfold wsX11_rank_r2
  exact wn_c wd_427 (wn_c wd_426 (wn_c wd_44 (wn_c wd_425 (wn_c wd_424 (wn_c wd_423 (wn_c wd_422 (wn_c wd_210 (wn_c wd_62 (wn_c wd_209 (wn_c wd_115 (wn_c wd_421 (wn_c wd_377 (wn_c wd_420 (wn_c wd_419 (wn_c wd_418 (wn_c wd_117 (wn_c wd_116 (wn_c wd_417 (wn_c wd_158 (wn_c wd_157 (wn_c wd_14 (wn_c wd_156 (wn_c wd_155 wn_0)))))))))))))))))))))))
theorem wl_X11_rank_r3 : GoodIn lw_tbl wsX11_rank_r3 := by
  unfold wsX11_rank_r3
  exact wn_c wd_416 (wn_c wd_415 (wn_c wd_414 (wn_c wd_413 (wn_c wd_114 (wn_c wd_412 (wn_c wd_447 (wn_c wd_446 (wn_c wd_0 (wn_c wd_445 (wn_c wd_80 (wn_c wd_366 (wn_c wd_368 (wn_c wd_77 (wn_c wd_444 (wn_c wd_443 (wn_c wd_442 (wn_c wd_441 (wn_c wd_440 (wn_c wd_357 (wn_c wd_356 (wn_c wd_4 (wn_c wd_355 (wn_c wd_89 wn_0)))))))))))))))))))))))
theorem wl_X11_rank_r4 : GoodIn lw_tbl wsX11_rank_r4 := by
  unfold wsX11_rank_r4
  exact wn_c wd_88 (wn_c wd_439 (wn_c wd_438 (wn_c wd_437 (wn_c wd_436 (wn_c wd_86 (wn_c wd_85 (wn_c wd_435 (wn_c wd_186 (wn_c wd_185 (wn_c wd_184 (wn_c wd_53 (wn_c wd_434 (wn_c wd_433 (wn_c wd_432 (wn_c wd_431 (wn_c wd_22 (wn_c wd_21 (wn_c wd_430 (wn_c wd_429 (wn_c wd_463 (wn_c wd_15 (wn_c wd_462 (wn_c wd_461 wn_0)))))))))))))))))))))))
theorem wl_X11_rank_r5 : GoodIn lw_tbl wsX11_rank_r5 := by
  unfold wsX11_rank_r5
  exact wn_c wd_460 (wn_c wd_71 (wn_c wd_459 (wn_c wd_87 (wn_c wd_458 (wn_c wd_457 (wn_c wd_456 (wn_c wd_455 (wn_c wd_151 (wn_c wd_454 (wn_c wd_453 (wn_c wd_452 (wn_c wd_451 (wn_c wd_410 (wn_c wd_450 (wn_c wd_449 (wn_c wd_57 (wn_c wd_56 (wn_c wd_55 (wn_c wd_54 (wn_c wd_63 (wn_c wd_61 (wn_c wd_448 (wn_c wd_487 wn_0)))))))))))))))))))))))
theorem wl_X11_rank_r6 : GoodIn lw_tbl wsX11_rank_r6 := by
  unfold wsX11_rank_r6
  exact wn_c wd_486 (wn_c wd_485 (wn_c wd_484 (wn_c wd_483 (wn_c wd_482 (wn_c wd_481 (wn_c wd_480 (wn_c wd_408 (wn_c wd_479 (wn_c wd_478 (wn_c wd_477 (wn_c wd_407 (wn_c wd_476 (wn_c wd_475 (wn_c wd_474 (wn_c wd_473 (wn_c wd_472 (wn_c wd_471 (wn_c wd_470 (wn_c wd_469 (wn_c wd_468 (wn_c wd_467 (wn_c wd_466 (wn_c wd_465 wn_0)))))))))))))))))))))))
theorem wl_X11_rank_r7 : GoodIn lw_tbl wsX11_rank_r7 := by
  unfold wsX11_rank_r7
  exact wn_c wd_464 (wn_c wd_511 (wn_c wd_510 (wn_c wd_509 (wn_c wd_508 (wn_c wd_507 (wn_c wd_506 (wn_c wd_505 (wn_c wd_504 (wn_c wd_503 (wn_c wd_502 (wn_c wd_501 (wn_c wd_500 (wn_c wd_499 (wn_c wd_498 (wn_c wd_497 (wn_c wd_496 (wn_c wd_495 (wn_c wd_494 (wn_c wd_493 (wn_c wd_492 (wn_c wd_491 (wn_c wd_490 (wn_c wd_489 wn_0)))))))))))))))))))))))
theorem wl_X11_rank_r8 : GoodIn lw_tbl wsX11_rank_r8 := by
  unfold wsX11_rank_r8
  exact wn_c wd_488 (wn_c wd_535 (wn_c wd_534 (wn_c wd_533 (wn_c wd_532 (wn_c wd_531 (wn_c wd_530 (wn_c wd_529 (wn_c wd_528 (wn_c wd_527 (wn_c wd_526 (wn_c wd_525 (wn_c wd_524 (wn_c wd_523 (wn_c wd_522 (wn_c wd_521 (wn_c wd_520 (wn_c wd_519 (wn_c wd_518 (wn_c wd_517 (wn_c wd_516 (wn_c wd_515 (wn_c wd_514 (wn_c wd_513 wn_0)))))))))))))))))))))))
theorem wl_X11_rank_r9 : GoodIn lw_tbl wsX11_rank_r9 := by
  unfold wsX11_rank_r9
  exact wn_c wd_512 (wn_c wd_559 (wn_c wd_558 (wn_c wd_557 (wn_c wd_556 (wn_c wd_555 (wn_c wd_554 (wn_c wd_553 (wn_c wd_552 (wn_c wd_214 (wn_c wd_213 (wn_c wd_212 (wn_c wd_211 (wn_c wd_551 (wn_c wd_550 (wn_c wd_549 (wn_c wd_548 (wn_c wd_547 (wn_c wd_546 (wn_c wd_545 (wn_c wd_544 (wn_c wd_543 (wn_c wd_542 (wn_c wd_541 wn_0)))))))))))))))))))))))
theorem wl_X11_rank_r10 : GoodIn lw_tbl wsX11_rank_r10 := by
  unfold wsX11_rank_r10
  exact wn_c wd_540 (wn_c wd_539 (wn_c wd_538 (wn_c wd_537 (wn_c wd_536 (wn_c wd_583 (wn_c wd_582 (wn_c wd_581 (wn_c wd_580 (wn_c wd_579 (wn_c wd_578 (wn_c wd_577 (wn_c wd_576 (wn_c wd_575 (wn_c wd_574 (wn_c wd_573 (wn_c wd_572 (wn_c wd_571 (wn_c wd_570 (wn_c wd_569 (wn_c wd_568 (wn_c wd_567 (wn_c wd_566 (wn_c wd_565 wn_0)))))))))))))))))))))))
theorem wl_X11_rank_r11 : GoodIn lw_tbl wsX11_rank_r11 := by
  unfold wsX11_rank_r11
  exact wn_c wd_564 (wn_c wd_563 (wn_c wd_562 (wn_c wd_561 (wn_c wd_560 (wn_c wd_607 (wn_c wd_606 (wn_c wd_605 (wn_c wd_604 (wn_c wd_603 (wn_c wd_602 (wn_c wd_601 (wn_c wd_600 (wn_c wd_599 (wn_c wd_598 (wn_c wd_597 (wn_c wd_596 (wn_c wd_595 (wn_c wd_594 (wn_c wd_593 (wn_c wd_592 (wn_c wd_591 (wn_c wd_590 (wn_c wd_949 wn_0)))))))))))))))))))))))
theorem wl_X11_rank_r12 : GoodIn lw_tbl wsX11_rank_r12 := by
  unfold wsX11_rank_r12
  exact wn_c wd_953 (wn_c wd_952 (wn_c wd_951 (wn_c wd_926 (wn_c wd_950 (wn_c wd_898 (wn_c wd_897 (wn_c wd_896 (wn_c wd_74 (wn_c wd_924 (wn_c wd_923 (wn_c wd_922 (wn_c wd_921 (wn_c wd_76 (wn_c wd_633 (wn_c wd_632 (wn_c wd_631 (wn_c wd_630 (wn_c wd_75 (wn_c wd_634 (wn_c wd_931 (wn_c wd_930 (wn_c wd_929 (wn_c wd_928 wn_0)))))))))))))))))))))))
theorem wl_X11_rank : GoodIn lw_tbl wsX11_rank := by
  unfold wsX11_rank
  exact wn_c wd_954 (wn_a (wn_a (wn_a (wn_a (wn_a (wn_a (wn_a (wn_a (wn_a (wl_X11_rank_r1) (wn_a (wl_X11_rank_r2) (wn_a (wl_X11_rank_r3) (wn_a (wl_X11_rank_r4) (wn_a (wl_X11_rank_r5) (wn_a (wl_X11_rank_r6) (wn_a (wl_X11_rank_r7) (wn_a (wl_X11_rank_r8) (wn_a (wl_X11_rank_r9) (wn_a (wl_X11_rank_r10) (wn_a (wl_X11_rank_r11) (wl_X11_rank_r12)))))))))))) (wt_11)) (wt_10)) (wt_6)) (wt_0)) (wt_3)) (wt_8)) (wt_7)) (wt_2))
theorem wl_X12_rank_r1 : GoodIn lw_tbl wsX12_rank_r1 := by
  unfold wsX12_rank_r1
  exact wn_c wd_958 (wn_c wd_889 (wn_c wd_144 (wn_c wd_911 (wn_c wd_152 (wn_c wd_143 (wn_c wd_231 (wn_c wd_230 (wn_c wd_175 (wn_c wd_229 (wn_c wd_228 (wn_c wd_177 (wn_c wd_176 (wn_c wd_174 (wn_c wd_864 (wn_c wd_863 (wn_c wd_862 (wn_c wd_861 (wn_c wd_140 (wn_c wd_657 (wn_c wd_227 (wn_c wd_226 (wn_c wd_225 (wn_c wd_224 wn_0)))))))))))))))))))))))
theorem wl_X12_rank_r2 : GoodIn lw_tbl wsX12_rank_r2 := by
  unfold wsX12_rank_r2
  exact wn_c wd_724 (wn_c wd_723 (wn_c wd_722 (wn_c wd_721 (wn_c wd_153 (wn_c wd_131 (wn_c wd_129 (wn_c wd_136 (wn_c wd_134 (wn_c wd_133 (wn_c wd_938 (wn_c wd_937 (wn_c wd_936 (wn_c wd_943 (wn_c wd_740 (wn_c wd_765 (wn_c wd_764 (wn_c wd_763 (wn_c wd_126 (wn_c wd_127 wn_0)))))))))))))))))))
theorem wl_X12_rank : GoodIn lw_tbl wsX12_rank := by
  unfold wsX12_rank
  exact wn_c wd_959 (wn_a (wn_a (wl_X12_rank_r1) (wl_X12_rank_r2)) (wt_12))
theorem wl_X11_power_r1 : GoodIn lw_tbl wsX11_power_r1 := by
  unfold wsX11_power_r1
  exact wn_c wd_43 (wn_c wd_12 (wn_c wd_42 (wn_c wd_40 (wn_c wd_192 (wn_c wd_219 (wn_c wd_218 (wn_c wd_217 (wn_c wd_166 (wn_c wd_216 (wn_c wd_855 (wn_c wd_854 (wn_c wd_853 (wn_c wd_852 (wn_c wd_163 (wn_c wd_773 (wn_c wd_772 (wn_c wd_771 (wn_c wd_770 (wn_c wd_164 (wn_c wd_825 (wn_c wd_427 (wn_c wd_426 (wn_c wd_44 wn_0)))))))))))))))))))))))
theorem wl_X11_power_r2 : GoodIn lw_tbl wsX11_power_r2 := by
  unfold wsX11_power_r2
  exact wn_c wd_425 (wn_c wd_424 (wn_c wd_423 (wn_c wd_422 (wn_c wd_210 (wn_c wd_62 (wn_c wd_209 (wn_c wd_115 (wn_c wd_421 (wn_c wd_377 (wn_c wd_420 (wn_c wd_419 (wn_c wd_418 (wn_c wd_117 (wn_c wd_116 (wn_c wd_417 (wn_c wd_158 (wn_c wd_157 (wn_c wd_14 (wn_c wd_156 (wn_c wd_155 (wn_c wd_416 (wn_c wd_415 (wn_c wd_414 wn_0)))))))))))))))))))))))
theorem wl_X11_power_r3 : GoodIn lw_tbl wsX11_power_r3 := by
  unfold wsX11_power_r3
  exact wn_c wd_413 (wn_c wd_114 (wn_c wd_412 (wn_c wd_447 (wn_c wd_446 (wn_c wd_0 (wn_c wd_445 (wn_c wd_80 (wn_c wd_366 (wn_c wd_368 (wn_c wd_77 (wn_c wd_444 (wn_c wd_443 (wn_c wd_442 (wn_c wd_441 (wn_c wd_440 (wn_c wd_357 (wn_c wd_356 (wn_c wd_4 (wn_c wd_355 (wn_c wd_89 (wn_c wd_88 (wn_c wd_439 (wn_c wd_438 wn_0)))))))))))))))))))))))
theorem wl_X11_power_r4 : GoodIn lw_tbl wsX11_power_r4 := by
  unfold wsX11_power_r4
  exact wn_c wd_437 (wn_c wd_436 (wn_c wd_86 (wn_c wd_85 (wn_c wd_435 (wn_c wd_186 (wn_c wd_185 (wn_c wd_184 (wn_c wd_53 (wn_c wd_434 (wn_c wd_433 (wn_c wd_432 (wn_c wd_431 (wn_c wd_22 (wn_c wd_21 (wn_c wd_430 (wn_c wd_429 (wn_c wd_463 (wn_c wd_15 (wn_c wd_462 (wn_c wd_461 (wn_c wd_460 (wn_c wd_71 (wn_c wd_459 wn_0)))))))))))))))))))))))
theorem wl_X11_power_r5 : GoodIn lw_tbl wsX11_power_r5 := by
  unfold wsX11_power_r5
  exact wn_c wd_87 (wn_c wd_458 (wn_c wd_457 (wn_c wd_456 (wn_c wd_455 (wn_c wd_151 (wn_c wd_454 (wn_c wd_453 (wn_c wd_452 (wn_c wd_451 (wn_c wd_410 (wn_c wd_450 (wn_c wd_449 (wn_c wd_57 (wn_c wd_56 (wn_c wd_55 (wn_c wd_54 (wn_c wd_63 (wn_c wd_61 (wn_c wd_448 (wn_c wd_487 (wn_c wd_486 (wn_c wd_485 (wn_c wd_484 wn_0)))))))))))))))))))))))
theorem wl_X11_power_r6 : GoodIn lw_tbl wsX11_power_r6 := by
  unfold wsX11_power_r6
  exact wn_c wd_483 (wn_c wd_482 (wn_c wd_481 (wn_c wd_480 (wn_c wd_408 (wn_c wd_479 (wn_c wd_478 (wn_c wd_477 (wn_c wd_407 (wn_c wd_476 (wn_c wd_475 (wn_c wd_474 (wn_c wd_473 (wn_c wd_472 (wn_c wd_471 (wn_c wd_470 (wn_c wd_469 (wn_c wd_468 (wn_c wd_467 (wn_c wd_466 (wn_c wd_465 (wn_c wd_464 (wn_c wd_511 (wn_c wd_510 wn_0)))))))))))))))))))))))
theorem wl_X11_power_r7 : GoodIn lw_tbl wsX11_power_r7 := by
  unfold wsX11_power_r7
  exact wn_c wd_509 (wn_c wd_508 (wn_c wd_507 (wn_c wd_506 (wn_c wd_505 (wn_c wd_504 (wn_c wd_503 (wn_c wd_502 (wn_c wd_501 (wn_c wd_500 (wn_c wd_499 (wn_c wd_498 (wn_c wd_497 (wn_c wd_496 (wn_c wd_495 (wn_c wd_494 (wn_c wd_493 (wn_c wd_492 (wn_c wd_491 (wn_c wd_490 (wn_c wd_489 (wn_c wd_488 (wn_c wd_535 (wn_c wd_534 wn_0)))))))))))))))))))))))
theorem wl_X11_power_r8 : GoodIn lw_tbl wsX11_power_r8 := by
  unfold wsX11_power_r8
  exact wn_c wd_533 (wn_c wd_532 (wn_c wd_531 (wn_c wd_530 (wn_c wd_529 (wn_c wd_528 (wn_c wd_527 (wn_c wd_526 (wn_c wd_525 (wn_c wd_524 (wn_c wd_523 (wn_c wd_522 (wn_c wd_521 (wn_c wd_520 (wn_c wd_519 (wn_c wd_518 (wn_c wd_517 (wn_c wd_516 (wn_c wd_515 (wn_c wd_514 (wn_c wd_513 (wn_c wd_512 (wn_c wd_559 (wn_c wd_558 wn_0)))))))))))))))))))))))
theorem wl_X11_power_r9 : GoodIn lw_tbl wsX11_power_r9 := by
  unfold wsX11_power_r9
  exact wn_c wd_557 (wn_c wd_556 (wn_c wd_555 (wn_c wd_554 (wn_c wd_553 (wn_c wd_552 (wn_c wd_214 (wn_c wd_213 (wn_c wd_212 (wn_c wd_211 (wn_c wd_551 (wn_c wd_550 (wn_c wd_549 (wn_c wd_548 (wn_c wd_547 (wn_c wd_546 (wn_c wd_545 (wn_c wd_544 (wn_c wd_543 (wn_c wd_542 (wn_c wd_541 (wn_c wd_540 (wn_c wd_539 (wn_c wd_538 wn_0)))))))))))))))))))))))
theorem wl_X11_power_r10 : GoodIn lw_tbl wsX11_power_r10 := by
  unfold wsX11_power_r10
  exact wn_c wd_537 (wn_c wd_536 (wn_c wd_583 (wn_c wd_582 (wn_c wd_581 (wn_c wd_580 (wn_c wd_579 (wn_c wd_578 (wn_c wd_577 (wn_c wd_576 (wn_c wd_575 (wn_c wd_574 (wn_c wd_573 (wn_c wd_572 (wn_c wd_571 (wn_c wd_570 (wn_c wd_569 (wn_c wd_568 (wn_c wd_567 (wn_c wd_566 (wn_c wd_565 (wn_c wd_564 (wn_c wd_563 (wn_c wd_562 wn_0)))))))))))))))))))))))
theorem wl_X11_power_r11 : GoodIn lw_tbl wsX11_power_r11 := by
  unfold wsX11_power_r11
  exact wn_c wd_561 (wn_c wd_560 (wn_c wd_607 (wn_c wd_606 (wn_c wd_605 (wn_c wd_604 (wn_c wd_603 (wn_c wd_602 (wn_c wd_601 (wn_c wd_600 (wn_c wd_599 (wn_c wd_598 (wn_c wd_597 (wn_c wd_596 (wn_c wd_595 (wn_c wd_594 (wn_c wd_593 (wn_c wd_592 (wn_c wd_591 (wn_c wd_590 (wn_c wd_159 (wn_c wd_965 (wn_c wd_964 (wn_c wd_963 wn_0)))))))))))))))))))))))
theorem wl_X11_power_r12 : GoodIn lw_tbl wsX11_power_r12 := by
  unfold wsX11_power_r12
  exact wn_c wd_967 (wn_c wd_966 (wn_c wd_215 wn_0))
theorem wl_X11_power : GoodIn lw_tbl wsX11_power := by
  unfold wsX11_power
  exact wn_c wd_968 (wn_a (wn_a (wn_a (wn_a (wn_a (wn_a (wn_a (wn_a (wn_a (wl_X11_power_r1) (wn_a (wl_X11_power_r2) (wn_a (wl_X11_power_r3) (wn_a (wl_X11_power_r4) (wn_a (wl_X11_power_r5) (wn_a (wl_X11_power_r6) (wn_a (wl_X11_power_r7) (wn_a (wl_X11_power_r8) (wn_a (wl_X11_power_r9) (wn_a (wl_X11_power_r10) (wn_a (wl_X11_power_r11) (wl_X11_power_r12)))))))))))) (wt_11)) (wt_10)) (wt_6)) (wt_0)) (wt_3)) (wt_8)) (wt_7)) (wt_2))
theorem wl_X12_power_r1 : GoodIn lw_tbl wsX12_power_r1 := by
  unfold wsX12_power_r1
  exact wn_c wd_972 (wn_c wd_144 (wn_c wd_231 (wn_c wd_230 (wn_c wd_175 (wn_c wd_229 (wn_c wd_228 (wn_c wd_177 (wn_c wd_176 (wn_c wd_174 (wn_c wd_864 (wn_c wd_863 (wn_c wd_862 (wn_c wd_861 (wn_c wd_140 (wn_c wd_657 (wn_c wd_227 (wn_c wd_226 (wn_c wd_225 (wn_c wd_224 (wn_c wd_143 (wn_c wd_724 (wn_c wd_723 (wn_c wd_722 wn_0)))))))))))))))))))))))
theorem wl_X12_power_r2 : GoodIn lw_tbl wsX12_power_r2 := by
  unfold wsX12_power_r2
  exact wn_c wd_721 (wn_c wd_153 (wn_c wd_131 (wn_c wd_129 (wn_c wd_136 (wn_c wd_134 (wn_c wd_133 (wn_c wd_980 (wn_c wd_979 (wn_c wd_978 (wn_c wd_977 (wn_c wd_976 (wn_c wd_975 (wn_c wd_974 (wn_c wd_973 wn_0))))))))))))))
theorem wl_X12_power : GoodIn lw_tbl wsX12_power := by
  unfold wsX12_power
  exact wn_c wd_981 (wn_a (wn_a (wl_X12_power_r1) (wl_X12_power_r2)) (wt_12))
theorem wl_X11_order_r1 : GoodIn lw_tbl wsX11_order_r1 := by
  unfold wsX11_order_r1
  exact wn_c wd_43 (wn_c wd_12 (wn_c wd_42 (wn_c wd_40 (wn_c wd_192 (wn_c wd_219 (wn_c wd_218 (wn_c wd_217 (wn_c wd_166 (wn_c wd_216 (wn_c wd_855 (wn_c wd_854 (wn_c wd_853 (wn_c wd_852 (wn_c wd_163 (wn_c wd_773 (wn_c wd_772 (wn_c wd_771 (wn_c wd_770 (wn_c wd_164 (wn_c wd_825 (wn_c wd_427 (wn_c wd_426 (wn_c wd_44 wn_0)))))))))))))))))))))))
theorem wl_X11_order_r2 : GoodIn lw_tbl wsX11_order_r2 := by
  unfold wsX11_order_r2
  exact wn_c wd_425 (wn_c wd_424 (wn_c wd_423 (wn_c wd_422 (wn_c wd_210 (wn_c wd_62 (wn_c wd_209 (wn_c wd_115 (wn_c wd_421 (wn_c wd_377 (wn_c wd_420 (wn_c wd_419 (wn_c wd_418 (wn_c wd_117 (wn_c wd_116 (wn_c wd_417 (wn_c wd_158 (wn_c wd_157 (wn_c wd_14 (wn_c wd_156 (wn_c wd_155 (wn_c wd_416 (wn_c wd_415 (wn_c wd_414 wn_0)))))))))))))))))))))))
theorem wl_X11_order_r3 : GoodIn lw_tbl wsX11_order_r3 := by
  unfold wsX11_order_r3
  exact wn_c wd_413 (wn_c wd_114 (wn_c wd_412 (wn_c wd_447 (wn_c wd_446 (wn_c wd_0 (wn_c wd_445 (wn_c wd_80 (wn_c wd_366 (wn_c wd_368 (wn_c wd_77 (wn_c wd_444 (wn_c wd_443 (wn_c wd_442 (wn_c wd_441 (wn_c wd_440 (wn_c wd_357 (wn_c wd_356 (wn_c wd_4 (wn_c wd_355 (wn_c wd_89 (wn_c wd_88 (wn_c wd_439 (wn_c wd_438 wn_0)))))))))))))))))))))))
theorem wl_X11_order_r4 : GoodIn lw_tbl wsX11_order_r4 := by
  unfold wsX11_order_r4
  exact wn_c wd_437 (wn_c wd_436 (wn_c wd_86 (wn_c wd_85 (wn_c wd_435 (wn_c wd_186 (wn_c wd_185 (wn_c wd_184 (wn_c wd_53 (wn_c wd_434 (wn_c wd_433 (wn_c wd_432 (wn_c wd_431 (wn_c wd_22 (wn_c wd_21 (wn_c wd_430 (wn_c wd_429 (wn_c wd_463 (wn_c wd_15 (wn_c wd_462 (wn_c wd_461 (wn_c wd_460 (wn_c wd_71 (wn_c wd_459 wn_0)))))))))))))))))))))))
theorem wl_X11_order_r5 : GoodIn lw_tbl wsX11_order_r5 := by
  unfold wsX11_order_r5
  exact wn_c wd_87 (wn_c wd_458 (wn_c wd_457 (wn_c wd_456 (wn_c wd_455 (wn_c wd_151 (wn_c wd_454 (wn_c wd_453 (wn_c wd_452 (wn_c wd_451 (wn_c wd_410 (wn_c wd_450 (wn_c wd_449 (wn_c wd_57 (wn_c wd_56 (wn_c wd_55 (wn_c wd_54 (wn_c wd_63 (wn_c wd_61 (wn_c wd_448 (wn_c wd_487 (wn_c wd_486 (wn_c wd_485 (wn_c wd_484 wn_0)))))))))))))))))))))))
theorem wl_X11_order_r6 : GoodIn lw_tbl wsX11_order_r6 := by
  unfold wsX11_order_r6
  exact wn_c wd_483 (wn_c wd_482 (wn_c wd_481 (wn_c wd_480 (wn_c wd_408 (wn_c wd_479 (wn_c wd_478 (wn_c wd_477 (wn_c wd_407 (wn_c wd_476 (wn_c wd_475 (wn_c wd_474 (wn_c wd_473 (wn_c wd_472 (wn_c wd_471 (wn_c wd_470 (wn_c wd_469 (wn_c wd_468 (wn_c wd_467 (wn_c wd_466 (wn_c wd_465 (wn_c wd_464 (wn_c wd_511 (wn_c wd_510 wn_0)))))))))))))))))))))))
theorem wl_X11_order_r7 : GoodIn lw_tbl wsX11_order_r7 := by
  unfold wsX11_order_r7
  exact wn_c wd_509 (wn_c wd_508 (wn_c wd_507 (wn_c wd_506 (wn_c wd_505 (wn_c wd_504 (wn_c wd_503 (wn_c wd_502 (wn_c wd_501 (wn_c wd_500 (wn_c wd_499 (wn_c wd_498 (wn_c wd_497 (wn_c wd_496 (wn_c wd_495 (wn_c wd_494 (wn_c wd_493 (wn_c wd_492 (wn_c wd_491 (wn_c wd_490 (wn_c wd_489 (wn_c wd_488 (wn_c wd_535 (wn_c wd_534 wn_0)))))))))))))))))))))))
theorem wl_X11_order_r8 : GoodIn lw_tbl wsX11_order_r8 := by
  unfold wsX11_order_r8
  exact wn_c wd_533 (wn_c wd_532 (wn_c wd_531 (wn_c wd_530 (wn_c wd_529 (wn_c wd_528 (wn_c wd_527 (wn_c wd_526 (wn_c wd_525 (wn_c wd_524 (wn_c wd_523 (wn_c wd_522 (wn_c wd_521 (wn_c wd_520 (wn_c wd_519 (wn_c wd_518 (wn_c wd_517 (wn_c wd_516 (wn_c wd_515 (wn_c wd_514 (wn_c wd_513 (wn_c wd_512 (wn_c wd_559 (wn_c wd_558 wn_0)))))))))))))))))))))))
theorem wl_X11_order_r9 : GoodIn lw_tbl wsX11_order_r9 := by
  unfold wsX11_order_r9
  exact wn_c wd_557 (wn_c wd_556 (wn_c wd_555 (wn_c wd_554 (wn_c wd_553 (wn_c wd_552 (wn_c wd_214 (wn_c wd_213 (wn_c wd_212 (wn_c wd_211 (wn_c wd_551 (wn_c wd_550 (wn_c wd_549 (wn_c wd_548 (wn_c wd_547 (wn_c wd_546 (wn_c wd_545 (wn_c wd_544 (wn_c wd_543 (wn_c wd_542 (wn_c wd_541 (wn_c wd_540 (wn_c wd_539 (wn_c wd_538 wn_0)))))))))))))))))))))))
theorem wl_X11_order_r10 : GoodIn lw_tbl wsX11_order_r10 := by
  unfold wsX11_order_r10
  exact wn_c wd_537 (wn_c wd_536 (wn_c wd_583 (wn_c wd_582 (wn_c wd_581 (wn_c wd_580 (wn_c wd_579 (wn_c wd_578 (wn_c wd_577 (wn_c wd_576 (wn_c wd_575 (wn_c wd_574 (wn_c wd_573 (wn_c wd_572 (wn_c wd_571 (wn_c wd_570 (wn_c wd_569 (wn_c wd_568 (wn_c wd_567 (wn_c wd_566 (wn_c wd_565 (wn_c wd_564 (wn_c wd_563 (wn_c wd_562 wn_0)))))))))))))))))))))))
theorem wl_X11_order_r11 : GoodIn lw_tbl wsX11_order_r11 := by
  unfold wsX11_order_r11
  exact wn_c wd_561 (wn_c wd_560 (wn_c wd_607 (wn_c wd_606 (wn_c wd_605 (wn_c wd_604 (wn_c wd_603 (wn_c wd_602 (wn_c wd_601 (wn_c wd_600 (wn_c wd_599 (wn_c wd_598 (wn_c wd_597 (wn_c wd_596 (wn_c wd_595 (wn_c wd_594 (wn_c wd_593 (wn_c wd_592 (wn_c wd_591 (wn_c wd_590 (wn_c wd_159 (wn_c wd_965 (wn_c wd_964 (wn_c wd_963 wn_0)))))))))))))))))))))))
theorem wl_X11_order_r12 : GoodIn lw_tbl wsX11_order_r12 := by
  unfold wsX11_order_r12
  exact wn_c wd_967 (wn_c wd_966 wn_0)
theorem wl_X11_order : GoodIn lw_tbl wsX11_order := by
  unfold wsX11_order
  exact wn_c wd_985 (wn_a (wn_a (wn_a (wn_a (wn_a (wn_a (wn_a (wn_a (wn_a (wl_X11_order_r1) (wn_a (wl_X11_order_r2) (wn_a (wl_X11_order_r3) (wn_a (wl_X11_order_r4) (wn_a (wl_X11_order_r5) (wn_a (wl_X11_order_r6) (wn_a (wl_X11_order_r7) (wn_a (wl_X11_order_r8) (wn_a (wl_X11_order_r9) (wn_a (wl_X11_order_r10) (wn_a (wl_X11_order_r11) (wl_X11_order_r12)))))))))))) (wt_11)) (wt_10)) (wt_6)) (wt_0)) (wt_3)) (wt_8)) (wt_7)) (wt_2))
theorem wl_X12_order_r1 : GoodIn lw_tbl wsX12_order_r1 := by
  unfold wsX12_order_r1
  exact wn_c wd_144 (wn_c wd_231 (wn_c wd_230 (wn_c wd_175 (wn_c wd_229 (wn_c wd_228 (wn_c wd_177 (wn_c wd_176 (wn_c wd_174 (wn_c wd_864 (wn_c wd_863 (wn_c wd_862 (wn_c wd_861 (wn_c wd_140 (wn_c wd_657 (wn_c wd_227 (wn_c wd_226 (wn_c wd_225 (wn_c wd_224 (wn_c wd_143 (wn_c wd_724 (wn_c wd_723 (wn_c wd_722 (wn_c wd_721 wn_0)))))))))))))))))))))))
theorem wl_X12_order_r2 : GoodIn lw_tbl wsX12_order_r2 := by
  unfold wsX12_order_r2
  exact wn_c wd_153 (wn_c wd_131 (wn_c wd_129 (wn_c wd_136 (wn_c wd_134 (wn_c wd_133 (wn_c wd_980 (wn_c wd_979 (wn_c wd_978 (wn_c wd_977 (wn_c wd_976 (wn_c wd_975 (wn_c wd_974 (wn_c wd_973 wn_0)))))))))))))
theorem wl_X12_order : GoodIn lw_tbl wsX12_order := by
  unfold wsX12_order
  exact wn_c wd_989 (wn_a (wn_a (wl_X12_order_r1) (wl_X12_order_r2)) (wt_12))
theorem wl_X11_inverse_r1 : GoodIn lw_tbl wsX11_inverse_r1 := by
  unfold wsX11_inverse_r1
  exact wn_c wd_43 (wn_c wd_12 (wn_c wd_42 (wn_c wd_32 (wn_c wd_40 (wn_c wd_993 (wn_c wd_192 (wn_c wd_219 (wn_c wd_218 (wn_c wd_217 (wn_c wd_166 (wn_c wd_216 (wn_c wd_855 (wn_c wd_854 (wn_c wd_853 (wn_c wd_852 (wn_c wd_163 (wn_c wd_773 (wn_c wd_772 (wn_c wd_771 (wn_c wd_770 (wn_c wd_164 (wn_c wd_825 (wn_c wd_427 wn_0)))))))))))))))))))))))
theorem wl_X11_inverse_r2 : GoodIn lw_tbl wsX11_inverse_r2 := by
  unfold wsX11_inverse_r2
  exact wn_c wd_426 (wn_c wd_44 (wn_c wd_425 (wn_c wd_424 (wn_c wd_423 (wn_c wd_422 (wn_c wd_210 (wn_c wd_62 (wn_c wd_209 (wn_c wd_115 (wn_c wd_421 (wn_c wd_377 (wn_c wd_420 (wn_c wd_419 (wn_c wd_418 (wn_c wd_117 (wn_c wd_116 (wn_c wd_417 (wn_c wd_158 (wn_c wd_157 (wn_c wd_14 (wn_c wd_156 (wn_c wd_155 (wn_c wd_416 wn_0)))))))))))))))))))))))
theorem wl_X11_inverse_r3 : GoodIn lw_tbl wsX11_inverse_r3 := by
  unfold wsX11_inverse_r3
  exact wn_c wd_415 (wn_c wd_414 (wn_c wd_413 (wn_c wd_114 (wn_c wd_412 (wn_c wd_447 (wn_c wd_446 (wn_c wd_0 (wn_c wd_445 (wn_c wd_80 (wn_c wd_366 (wn_c wd_368 (wn_c wd_77 (wn_c wd_444 (wn_c wd_443 (wn_c wd_442 (wn_c wd_441 (wn_c wd_440 (wn_c wd_357 (wn_c wd_356 (wn_c wd_4 (wn_c wd_355 (wn_c wd_89 (wn_c wd_88 wn_0)))))))))))))))))))))))
theorem wl_X11_inverse_r4 : GoodIn lw_tbl wsX11_inverse_r4 := by
  unfold wsX11_inverse_r4
  exact wn_c wd_439 (wn_c wd_438 (wn_c wd_437 (wn_c wd_436 (wn_c wd_86 (wn_c wd_85 (wn_c wd_435 (wn_c wd_186 (wn_c wd_185 (wn_c wd_184 (wn_c wd_53 (wn_c wd_434 (wn_c wd_433 (wn_c wd_432 (wn_c wd_431 (wn_c wd_22 (wn_c wd_21 (wn_c wd_430 (wn_c wd_429 (wn_c wd_463 (wn_c wd_15 (wn_c wd_462 (wn_c wd_461 (wn_c wd_460 wn_0)))))))))))))))))))))))
theorem wl_X11_inverse_r5 : GoodIn lw_tbl wsX11_inverse_r5 := by
  unfold wsX11_inverse_r5
  exact wn_c wd_71 (wn_c wd_459 (wn_c wd_87 (wn_c wd_458 (wn_c wd_457 (wn_c wd_456 (wn_c wd_455 (wn_c wd_151 (wn_c wd_454 (wn_c wd_453 (wn_c wd_452 (wn_c wd_451 (wn_c wd_410 (wn_c wd_450 (wn_c wd_449 (wn_c wd_57 (wn_c wd_56 (wn_c wd_55 (wn_c wd_54 (wn_c wd_63 (wn_c wd_61 (wn_c wd_448 (wn_c wd_487 (wn_c wd_486 wn_0)))))))))))))))))))))))
theorem wl_X11_inverse_r6 : GoodIn lw_tbl wsX11_inverse_r6 := by
  unfold wsX11_inverse_r6
  exact wn_c wd_485 (wn_c wd_484 (wn_c wd_483 (wn_c wd_482 (wn_c wd_481 (wn_c wd_480 (wn_c wd_408 (wn_c wd_479 (wn_c wd_478 (wn_c wd_477 (wn_c wd_407 (wn_c wd_476 (wn_c wd_475 (wn_c wd_474 (wn_c wd_473 (wn_c wd_472 (wn_c wd_471 (wn_c wd_470 (wn_c wd_469 (wn_c wd_468 (wn_c wd_467 (wn_c wd_466 (wn_c wd_465 (wn_c wd_464 wn_0)))))))))))))))))))))))
theorem wl_X11_inverse_r7 : GoodIn lw_tbl wsX11_inverse_r7 := by
  unfold wsX11_inverse_r7
  exact wn_c wd_511 (wn_c wd_510 (wn_c wd_509 (wn_c wd_508 (wn_c wd_507 (wn_c wd_506 (wn_c wd_505 (wn_c wd_504 (wn_c wd_503 (wn_c wd_502 (wn_c wd_501 (wn_c wd_500 (wn_c wd_499 (wn_c wd_498 (wn_c wd_497 (wn_c wd_496 (wn_c wd_495 (wn_c wd_494 (wn_c wd_493 (wn_c wd_492 (wn_c wd_491 (wn_c wd_490 (wn_c wd_489 (wn_c wd_488 wn_0)))))))))))))))))))))))
theorem wl_X11_inverse_r8 : GoodIn lw_tbl wsX11_inverse_r8 := by
  unfold wsX11_inverse_r8
  exact wn_c wd_535 (wn_c wd_534 (wn_c wd_533 (wn_c wd_532 (wn_c wd_531 (wn_c wd_530 (wn_c wd_529 (wn_c wd_528 (wn_c wd_527 (wn_c wd_526 (wn_c wd_525 (wn_c wd_524 (wn_c wd_523 (wn_c wd_522 (wn_c wd_521 (wn_c wd_520 (wn_c wd_519 (wn_c wd_518 (wn_c wd_517 (wn_c wd_516 (wn_c wd_515 (wn_c wd_514 (wn_c wd_513 (wn_c wd_512 wn_0)))))))))))))))))))))))
theorem wl_X11_inverse_r9 : GoodIn lw_tbl wsX11_inverse_r9 := by
  unfold wsX11_inverse_r9
  exact wn_c wd_559 (wn_c wd_558 (wn_c wd_557 (wn_c wd_556 (wn_c wd_555 (wn_c wd_554 (wn_c wd_553 (wn_c wd_552 (wn_c wd_214 (wn_c wd_213 (wn_c wd_212 (wn_c wd_211 (wn_c wd_551 (wn_c wd_550 (wn_c wd_549 (wn_c wd_548 (wn_c wd_547 (wn_c wd_546 (wn_c wd_545 (wn_c wd_544 (wn_c wd_543 (wn_c wd_542 (wn_c wd_541 (wn_c wd_540 wn_0)))))))))))))))))))))))
theorem wl_X11_inverse_r10 : GoodIn lw_tbl wsX11_inverse_r10 := by
  unfold wsX11_inverse_r10
  exact wn_c wd_539 (wn_c wd_538 (wn_c wd_537 (wn_c wd_536 (wn_c wd_583 (wn_c wd_582 (wn_c wd_581 (wn_c wd_580 (wn_c wd_579 (wn_c wd_578 (wn_c wd_577 (wn_c wd_576 (wn_c wd_575 (wn_c wd_574 (wn_c wd_573 (wn_c wd_572 (wn_c wd_571 (wn_c wd_570 (wn_c wd_569 (wn_c wd_568 (wn_c wd_567 (wn_c wd_566 (wn_c wd_565 (wn_c wd_564 wn_0)))))))))))))))))))))))
theorem wl_X11_inverse_r11 : GoodIn lw_tbl wsX11_inverse_r11 := by
  unfold wsX11_inverse_r11
  exact wn_c wd_563 (wn_c wd_562 (wn_c wd_561 (wn_c wd_560 (wn_c wd_607 (wn_c wd_606 (wn_c wd_605 (wn_c wd_604 (wn_c wd_603 (wn_c wd_602 (wn_c wd_601 (wn_c wd_600 (wn_c wd_599 (wn_c wd_598 (wn_c wd_597 (wn_c wd_596 (wn_c wd_595 (wn_c wd_594 (wn_c wd_593 (wn_c wd_592 (wn_c wd_591 (wn_c wd_590 (wn_c wd_995 (wn_c wd_994 wn_0)))))))))))))))))))))))
theorem wl_X11_inverse_r12 : GoodIn lw_tbl wsX11_inverse_r12 := by
  unfold wsX11_inverse_r12
  exact wn_c wd_1015 (wn_c wd_33 (wn_c wd_1014 (wn_c wd_98 (wn_c wd_100 (wn_c wd_1013 (wn_c wd_1012 (wn_c wd_1011 (wn_c wd_1010 (wn_c wd_1009 (wn_c wd_1008 (wn_c wd_1007 (wn_c wd_1006 (wn_c wd_1005 (wn_c wd_1004 (wn_c wd_1003 (wn_c wd_1002 (wn_c wd_101 (wn_c wd_1001 (wn_c wd_1000 (wn_c wd_999 (wn_c wd_998 (wn_c wd_997 (wn_c wd_996 wn_0)))))))))))))))))))))))
theorem wl_X11_inverse_r13 : GoodIn lw_tbl wsX11_inverse_r13 := by
  unfold wsX11_inverse_r13
  exact wn_c wd_215 (wn_c wd_965 (wn_c wd_964 (wn_c wd_963 (wn_c wd_967 (wn_c wd_966 wn_0)))))
theorem wl_X11_inverse : GoodIn lw_tbl wsX11_inverse := by
  unfold wsX11_inverse
  exact wn_c wd_1016 (wn_a (wn_a (wn_a (wn_a (wn_a (wn_a (wn_a (wn_a (wn_a (wn_a (wl_X11_inverse_r1) (wn_a (wl_X11_inverse_r2) (wn_a (wl_X11_inverse_r3) (wn_a (wl_X11_inverse_r4) (wn_a (wl_X11_inverse_r5) (wn_a (wl_X11_inverse_r6) (wn_a (wl_X11_inverse_r7) (wn_a (wl_X11_inverse_r8) (wn_a (wl_X11_inverse_r9) (wn_a (wl_X11_inverse_r10) (wn_a (wl_X11_inverse_r11) (wn_a (wl_X11_inverse_r12) (wl_X11_inverse_r13))))))))))))) (wt_11)) (wt_9)) (wt_10)) (wt_6)) (wt_0)) (wt_3)) (wt_8)) (wt_7)) (wt_2))
theorem wl_X12_inverse_r1 : GoodIn lw_tbl wsX12_inverse_r1 := by
  unfold wsX12_inverse_r1
  exact wn_c wd_144 (wn_c wd_231 (wn_c wd_230 (wn_c wd_175 (wn_c wd_229 (wn_c wd_228 (wn_c wd_177 (wn_c wd_176 (wn_c wd_174 (wn_c wd_864 (wn_c wd_863 (wn_c wd_862 (wn_c wd_861 (wn_c wd_140 (wn_c wd_657 (wn_c wd_227 (wn_c wd_226 (wn_c wd_225 (wn_c wd_224 (wn_c wd_143 (wn_c wd_724 (wn_c wd_723 (wn_c wd_722 (wn_c wd_721 wn_0)))))))))))))))))))))))
theorem wl_X12_inverse_r2 : GoodIn lw_tbl wsX12_inverse_r2 := by
  unfold wsX12_inverse_r2
  exact wn_c wd_153 (wn_c wd_131 (wn_c wd_129 (wn_c wd_136 (wn_c wd_134 (wn_c wd_133 (wn_c wd_942 (wn_c wd_941 (wn_c wd_940 (wn_c wd_939 (wn_c wd_152 (wn_c wd_938 (wn_c wd_937 (wn_c wd_936 (wn_c wd_943 (wn_c wd_740 (wn_c wd_765 (wn_c wd_764 (wn_c wd_763 (wn_c wd_126 (wn_c wd_127 (wn_c wd_976 (wn_c wd_975 (wn_c wd_974 wn_0)))))))))))))))))))))))
theorem wl_X12_inverse_r3 : GoodIn lw_tbl wsX12_inverse_r3 := by
  unfold wsX12_inverse_r3
  exact wn_c wd_973 wn_0
theorem wl_X12_inverse : GoodIn lw_tbl wsX12_inverse := by
  unfold wsX12_inverse
  exact wn_c wd_1020 (wn_a (wn_a (wl_X12_inverse_r1) (wn_a (wl_X12_inverse_r2) (wl_X12_inverse_r3))) (wt_12))
theorem wl_X11_makes_r1 : GoodIn lw_tbl wsX11_makes_r1 := by
  unfold wsX11_makes_r1
  exact wn_c wd_43 (wn_c wd_12 (wn_c wd_42 (wn_c wd_41 (wn_c wd_28 (wn_c wd_1024 (wn_c wd_219 (wn_c wd_218 (wn_c wd_217 (wn_c wd_166 (wn_c wd_216 (wn_c wd_855 (wn_c wd_854 (wn_c wd_853 (wn_c wd_852 (wn_c wd_163 (wn_c wd_773 (wn_c wd_772 (wn_c wd_771 (wn_c wd_770 (wn_c wd_164 (wn_c wd_825 (wn_c wd_427 (wn_c wd_426 wn_0)))))))))))))))))))))))
theorem wl_X11_makes_r2 : GoodIn lw_tbl wsX11_makes_r2 := by
  unfold wsX11_makes_r2
  exact wn_c wd_44 (wn_c wd_425 (wn_c wd_424 (wn_c wd_423 (wn_c wd_422 (wn_c wd_210 (wn_c wd_62 (wn_c wd_209 (wn_c wd_115 (wn_c wd_421 (wn_c wd_377 (wn_c wd_420 (wn_c wd_419 (wn_c wd_418 (wn_c wd_117 (wn_c wd_116 (wn_c wd_417 (wn_c wd_158 (wn_c wd_157 (wn_c wd_14 (wn_c wd_156 (wn_c wd_155 (wn_c wd_416 (wn_c wd_415 wn_0)))))))))))))))))))))))
theorem wl_X11_makes_r3 : GoodIn lw_tbl wsX11_makes_r3 := by
  unfold wsX11_makes_r3
  exact wn_c wd_414 (wn_c wd_413 (wn_c wd_114 (wn_c wd_412 (wn_c wd_447 (wn_c wd_446 (wn_c wd_0 (wn_c wd_445 (wn_c wd_80 (wn_c wd_366 (wn_c wd_368 (wn_c wd_77 (wn_c wd_444 (wn_c wd_443 (wn_c wd_442 (wn_c wd_441 (wn_c wd_440 (wn_c wd_357 (wn_c wd_356 (wn_c wd_4 (wn_c wd_355 (wn_c wd_89 (wn_c wd_88 (wn_c wd_439 wn_0)))))))))))))))))))))))
theorem wl_X11_makes_r4 : GoodIn lw_tbl wsX11_makes_r4 := by
  unfold wsX11_makes_r4
  exact wn_c wd_438 (wn_c wd_437 (wn_c wd_436 (wn_c wd_86 (wn_c wd_85 (wn_c wd_435 (wn_c wd_186 (wn_c wd_185 (wn_c wd_184 (wn_c wd_53 (wn_c wd_434 (wn_c wd_433 (wn_c wd_432 (wn_c wd_431 (wn_c wd_22 (wn_c wd_21 (wn_c wd_430 (wn_c wd_429 (wn_c wd_463 (wn_c wd_15 (wn_c wd_462 (wn_c wd_461 (wn_c wd_460 (wn_c wd_71 wn_0)))))))))))))))))))))))
theorem wl_X11_makes_r5 : GoodIn lw_tbl wsX11_makes_r5 := by
  unfold wsX11_makes_r5
  exact wn_c wd_459 (wn_c wd_87 (wn_c wd_458 (wn_c wd_457 (wn_c wd_456 (wn_c wd_455 (wn_c wd_151 (wn_c wd_454 (wn_c wd_453 (wn_c wd_452 (wn_c wd_451 (wn_c wd_410 (wn_c wd_450 (wn_c wd_449 (wn_c wd_57 (wn_c wd_56 (wn_c wd_55 (wn_c wd_54 (wn_c wd_63 (wn_c wd_61 (wn_c wd_448 (wn_c wd_487 (wn_c wd_486 (wn_c wd_485 wn_0)))))))))))))))))))))))
theorem wl_X11_makes_r6 : GoodIn lw_tbl wsX11_makes_r6 := by
  unfold wsX11_makes_r6
  exact wn_c wd_484 (wn_c wd_483 (wn_c wd_482 (wn_c wd_481 (wn_c wd_480 (wn_c wd_408 (wn_c wd_479 (wn_c wd_478 (wn_c wd_477 (wn_c wd_407 (wn_c wd_476 (wn_c wd_475 (wn_c wd_474 (wn_c wd_473 (wn_c wd_472 (wn_c wd_471 (wn_c wd_470 (wn_c wd_469 (wn_c wd_468 (wn_c wd_467 (wn_c wd_466 (wn_c wd_465 (wn_c wd_464 (wn_c wd_511 wn_0)))))))))))))))))))))))
theorem wl_X11_makes_r7 : GoodIn lw_tbl wsX11_makes_r7 := by
  unfold wsX11_makes_r7
  exact wn_c wd_510 (wn_c wd_509 (wn_c wd_508 (wn_c wd_507 (wn_c wd_506 (wn_c wd_505 (wn_c wd_504 (wn_c wd_503 (wn_c wd_502 (wn_c wd_501 (wn_c wd_500 (wn_c wd_499 (wn_c wd_498 (wn_c wd_497 (wn_c wd_496 (wn_c wd_495 (wn_c wd_494 (wn_c wd_493 (wn_c wd_492 (wn_c wd_491 (wn_c wd_490 (wn_c wd_489 (wn_c wd_488 (wn_c wd_535 wn_0)))))))))))))))))))))))
theorem wl_X11_makes_r8 : GoodIn lw_tbl wsX11_makes_r8 := by
  unfold wsX11_makes_r8
  exact wn_c wd_534 (wn_c wd_533 (wn_c wd_532 (wn_c wd_531 (wn_c wd_530 (wn_c wd_529 (wn_c wd_528 (wn_c wd_527 (wn_c wd_526 (wn_c wd_525 (wn_c wd_524 (wn_c wd_523 (wn_c wd_522 (wn_c wd_521 (wn_c wd_520 (wn_c wd_519 (wn_c wd_518 (wn_c wd_517 (wn_c wd_516 (wn_c wd_515 (wn_c wd_514 (wn_c wd_513 (wn_c wd_512 (wn_c wd_559 wn_0)))))))))))))))))))))))
theorem wl_X11_makes_r9 : GoodIn lw_tbl wsX11_makes_r9 := by
  unfold wsX11_makes_r9
  exact wn_c wd_558 (wn_c wd_557 (wn_c wd_556 (wn_c wd_555 (wn_c wd_554 (wn_c wd_553 (wn_c wd_552 (wn_c wd_214 (wn_c wd_213 (wn_c wd_212 (wn_c wd_211 (wn_c wd_551 (wn_c wd_550 (wn_c wd_549 (wn_c wd_548 (wn_c wd_547 (wn_c wd_546 (wn_c wd_545 (wn_c wd_544 (wn_c wd_543 (wn_c wd_542 (wn_c wd_541 (wn_c wd_540 (wn_c wd_539 wn_0)))))))))))))))))))))))
theorem wl_X11_makes_r10 : GoodIn lw_tbl wsX11_makes_r10 := by
  unfold wsX11_makes_r10
  exact wn_c wd_538 (wn_c wd_537 (wn_c wd_536 (wn_c wd_583 (wn_c wd_582 (wn_c wd_581 (wn_c wd_580 (wn_c wd_579 (wn_c wd_578 (wn_c wd_577 (wn_c wd_576 (wn_c wd_575 (wn_c wd_574 (wn_c wd_573 (wn_c wd_572 (wn_c wd_571 (wn_c wd_570 (wn_c wd_569 (wn_c wd_568 (wn_c wd_567 (wn_c wd_566 (wn_c wd_565 (wn_c wd_564 (wn_c wd_563 wn_0)))))))))))))))))))))))
theorem wl_X11_makes_r11 : GoodIn lw_tbl wsX11_makes_r11 := by
  unfold wsX11_makes_r11
  exact wn_c wd_562 (wn_c wd_561 (wn_c wd_560 (wn_c wd_607 (wn_c wd_606 (wn_c wd_605 (wn_c wd_604 (wn_c wd_603 (wn_c wd_602 (wn_c wd_601 (wn_c wd_600 (wn_c wd_599 (wn_c wd_598 (wn_c wd_597 (wn_c wd_596 (wn_c wd_595 (wn_c wd_594 (wn_c wd_593 (wn_c wd_592 (wn_c wd_591 (wn_c wd_590 (wn_c wd_1027 (wn_c wd_1026 (wn_c wd_1025 wn_0)))))))))))))))))))))))
theorem wl_X11_makes_r12 : GoodIn lw_tbl wsX11_makes_r12 := by
  unfold wsX11_makes_r12
  exact wn_c wd_29 (wn_c wd_1042 (wn_c wd_121 (wn_c wd_120 (wn_c wd_1041 (wn_c wd_1040 (wn_c wd_1039 (wn_c wd_1038 (wn_c wd_1037 (wn_c wd_40 (wn_c wd_1036 (wn_c wd_1035 (wn_c wd_1034 (wn_c wd_1033 (wn_c wd_1032 (wn_c wd_1031 (wn_c wd_965 (wn_c wd_964 (wn_c wd_963 (wn_c wd_967 (wn_c wd_966 (wn_c wd_1030 (wn_c wd_1029 (wn_c wd_1028 wn_0)))))))))))))))))))))))
