theorem d_Model_act_234 : decode b_Model_act 234 = .ok (.iastore, 1) := by decide +kernel
theorem d_Model_act_235 : decode b_Model_act 235 = .ok (.iload_n 2, 1) := by decide +kernel
theorem d_Model_act_236 : decode b_Model_act 236 = .ok (.ireturn, 1) := by decide +kernel
theorem d_Model_act_237 : decode b_Model_act 237 = .ok (.bipush 70, 2) := by decide +kernel
theorem d_Model_act_239 : decode b_Model_act 239 = .ok (.ireturn, 1) := by decide +kernel
theorem d_Model_act_240 : decode b_Model_act 240 = .ok (.bipush 6, 2) := by decide +kernel
theorem d_Model_act_242 : decode b_Model_act 242 = .ok (.ireturn, 1) := by decide +kernel
theorem d_Model_act_243 : decode b_Model_act 243 = .ok (.iconst 5, 1) := by decide +kernel
theorem d_Model_act_244 : decode b_Model_act 244 = .ok (.ireturn, 1) := by decide +kernel
theorem d_Model_act_245 : decode b_Model_act 245 = .ok (.iconst 2, 1) := by decide +kernel
theorem d_Model_act_246 : decode b_Model_act 246 = .ok (.ireturn, 1) := by decide +kernel
theorem d_Model_act_247 : decode b_Model_act 247 = .ok (.iconst 4, 1) := by decide +kernel
theorem d_Model_act_248 : decode b_Model_act 248 = .ok (.ireturn, 1) := by decide +kernel
theorem d_Model_act_249 : decode b_Model_act 249 = .ok (.aload_n 0, 1) := by decide +kernel
theorem d_Model_act_250 : decode b_Model_act 250 = .ok (.iconst 3, 1) := by decide +kernel
theorem d_Model_act_251 : decode b_Model_act 251 = .ok (.iconst 4, 1) := by decide +kernel
theorem d_Model_act_252 : decode b_Model_act 252 = .ok (.invokevirtual 72, 3) := by decide +kernel
theorem d_Model_act_255 : decode b_Model_act 255 = .ok (.bipush 19, 2) := by decide +kernel
theorem d_Model_act_257 : decode b_Model_act 257 = .ok (.ireturn, 1) := by decide +kernel
theorem d_Model_act_258 : decode b_Model_act 258 = .ok (.iconst 1, 1) := by decide +kernel
theorem d_Model_act_259 : decode b_Model_act 259 = .ok (.ireturn, 1) := by decide +kernel
theorem d_Model_act_260 : decode b_Model_act 260 = .ok (.bipush 11, 2) := by decide +kernel
theorem d_Model_act_262 : decode b_Model_act 262 = .ok (.ireturn, 1) := by decide +kernel
theorem d_Model_act_263 : decode b_Model_act 263 = .ok (.bipush 71, 2) := by decide +kernel
theorem d_Model_act_265 : decode b_Model_act 265 = .ok (.ireturn, 1) := by decide +kernel
theorem d_Model_act_266 : decode b_Model_act 266 = .ok (.aload_n 0, 1) := by decide +kernel
theorem d_Model_act_267 : decode b_Model_act 267 = .ok (.getfield 19, 3) := by decide +kernel
theorem d_Model_act_270 : decode b_Model_act 270 = .ok (.aload_n 0, 1) := by decide +kernel
theorem d_Model_act_271 : decode b_Model_act 271 = .ok (.getfield 41, 3) := by decide +kernel
theorem d_Model_act_274 : decode b_Model_act 274 = .ok (.iaload, 1) := by decide +kernel
theorem d_Model_act_275 : decode b_Model_act 275 = .ok (.ireturn, 1) := by decide +kernel
theorem d_Model_act_276 : decode b_Model_act 276 = .ok (.aload_n 0, 1) := by decide +kernel
theorem d_Model_act_277 : decode b_Model_act 277 = .ok (.getfield 22, 3) := by decide +kernel
theorem d_Model_act_280 : decode b_Model_act 280 = .ok (.aload_n 0, 1) := by decide +kernel
theorem d_Model_act_281 : decode b_Model_act 281 = .ok (.getfield 41, 3) := by decide +kernel
theorem d_Model_act_284 : decode b_Model_act 284 = .ok (.iaload, 1) := by decide +kernel
theorem d_Model_act_285 : decode b_Model_act 285 = .ok (.ireturn, 1) := by decide +kernel
theorem d_Model_act_286 : decode b_Model_act 286 = .ok (.aload_n 0, 1) := by decide +kernel
theorem d_Model_act_287 : decode b_Model_act 287 = .ok (.invokevirtual 96, 3) := by decide +kernel
theorem d_Model_act_290 : decode b_Model_act 290 = .ok (.bipush 20, 2) := by decide +kernel
theorem d_Model_act_292 : decode b_Model_act 292 = .ok (.ireturn, 1) := by decide +kernel
theorem d_Model_act_293 : decode b_Model_act 293 = .ok (.iload 5, 2) := by decide +kernel
theorem d_Model_act_295 : decode b_Model_act 295 = .ok (.ifCond .eq 8, 3) := by decide +kernel
theorem d_Model_act_298 : decode b_Model_act 298 = .ok (.bipush 18, 2) := by decide +kernel
theorem d_Model_act_300 : decode b_Model_act 300 = .ok (.goto 4, 3) := by decide +kernel
theorem d_Model_act_303 : decode b_Model_act 303 = .ok (.iconst 3, 1) := by decide +kernel
theorem d_Model_act_304 : decode b_Model_act 304 = .ok (.bipush 17, 2) := by decide +kernel
theorem d_Model_act_306 : decode b_Model_act 306 = .ok (.iadd, 1) := by decide +kernel
theorem d_Model_act_307 : decode b_Model_act 307 = .ok (.ireturn, 1) := by decide +kernel
theorem d_Model_act_308 : decode b_Model_act 308 = .ok (.iload 5, 2) := by decide +kernel
theorem d_Model_act_310 : decode b_Model_act 310 = .ok (.ifCond .eq 7, 3) := by decide +kernel
theorem d_Model_act_313 : decode b_Model_act 313 = .ok (.iconst 1, 1) := by decide +kernel
theorem d_Model_act_314 : decode b_Model_act 314 = .ok (.goto 4, 3) := by decide +kernel
theorem d_Model_act_317 : decode b_Model_act 317 = .ok (.iconst 0, 1) := by decide +kernel
theorem d_Model_act_318 : decode b_Model_act 318 = .ok (.ireturn, 1) := by decide +kernel
theorem d_Model_act_319 : decode b_Model_act 319 = .ok (.aload_n 0, 1) := by decide +kernel
theorem d_Model_act_320 : decode b_Model_act 320 = .ok (.getfield 38, 3) := by decide +kernel
theorem d_Model_act_323 : decode b_Model_act 323 = .ok (.aload_n 0, 1) := by decide +kernel
theorem d_Model_act_324 : decode b_Model_act 324 = .ok (.getfield 41, 3) := by decide +kernel
theorem d_Model_act_327 : decode b_Model_act 327 = .ok (.baload, 1) := by decide +kernel
theorem d_Model_act_328 : decode b_Model_act 328 = .ok (.ifCond .eq 12, 3) := by decide +kernel
theorem d_Model_act_331 : decode b_Model_act 331 = .ok (.iload_n 2, 1) := by decide +kernel
theorem d_Model_act_332 : decode b_Model_act 332 = .ok (.ifCond .gt 8, 3) := by decide +kernel
theorem d_Model_act_335 : decode b_Model_act 335 = .ok (.bipush (-103), 2) := by decide +kernel
theorem d_Model_act_337 : decode b_Model_act 337 = .ok (.goto 8, 3) := by decide +kernel
theorem d_Model_act_340 : decode b_Model_act 340 = .ok (.iload_n 2, 1) := by decide +kernel
theorem d_Model_act_341 : decode b_Model_act 341 = .ok (.sipush 1000, 3) := by decide +kernel
theorem d_Model_act_344 : decode b_Model_act 344 = .ok (.iadd, 1) := by decide +kernel
theorem d_Model_act_345 : decode b_Model_act 345 = .ok (.ireturn, 1) := by decide +kernel
theorem d_Model_act_346 : decode b_Model_act 346 = .ok (.aload_n 0, 1) := by decide +kernel
theorem d_Model_act_347 : decode b_Model_act 347 = .ok (.getfield 25, 3) := by decide +kernel
theorem d_Model_act_350 : decode b_Model_act 350 = .ok (.aload_n 0, 1) := by decide +kernel
theorem d_Model_act_351 : decode b_Model_act 351 = .ok (.getfield 41, 3) := by decide +kernel
theorem d_Model_act_354 : decode b_Model_act 354 = .ok (.dup2, 1) := by decide +kernel
theorem d_Model_act_355 : decode b_Model_act 355 = .ok (.iaload, 1) := by decide +kernel
theorem d_Model_act_356 : decode b_Model_act 356 = .ok (.iload 5, 2) := by decide +kernel
theorem d_Model_act_358 : decode b_Model_act 358 = .ok (.ifCond .eq 7, 3) := by decide +kernel
theorem d_Model_act_361 : decode b_Model_act 361 = .ok (.iconst 3, 1) := by decide +kernel
theorem d_Model_act_362 : decode b_Model_act 362 = .ok (.goto 4, 3) := by decide +kernel
theorem d_Model_act_365 : decode b_Model_act 365 = .ok (.iconst 2, 1) := by decide +kernel
theorem d_Model_act_366 : decode b_Model_act 366 = .ok (.iadd, 1) := by decide +kernel
theorem d_Model_act_367 : decode b_Model_act 367 = .ok (.iastore, 1) := by decide +kernel
theorem d_Model_act_368 : decode b_Model_act 368 = .ok (.aload_n 0, 1) := by decide +kernel
theorem d_Model_act_369 : decode b_Model_act 369 = .ok (.getfield 25, 3) := by decide +kernel
theorem d_Model_act_372 : decode b_Model_act 372 = .ok (.aload_n 0, 1) := by decide +kernel
theorem d_Model_act_373 : decode b_Model_act 373 = .ok (.getfield 41, 3) := by decide +kernel
theorem d_Model_act_376 : decode b_Model_act 376 = .ok (.iaload, 1) := by decide +kernel
theorem d_Model_act_377 : decode b_Model_act 377 = .ok (.ireturn, 1) := by decide +kernel
theorem d_Model_act_378 : decode b_Model_act 378 = .ok (.bipush 20, 2) := by decide +kernel
theorem d_Model_act_380 : decode b_Model_act 380 = .ok (.ireturn, 1) := by decide +kernel
theorem d_Model_act_381 : decode b_Model_act 381 = .ok (.aload_n 0, 1) := by decide +kernel
theorem d_Model_act_382 : decode b_Model_act 382 = .ok (.getfield 16, 3) := by decide +kernel
theorem d_Model_act_385 : decode b_Model_act 385 = .ok (.aload_n 0, 1) := by decide +kernel
theorem d_Model_act_386 : decode b_Model_act 386 = .ok (.getfield 41, 3) := by decide +kernel
theorem d_Model_act_389 : decode b_Model_act 389 = .ok (.iaload, 1) := by decide +kernel
theorem d_Model_act_390 : decode b_Model_act 390 = .ok (.ireturn, 1) := by decide +kernel
theorem d_Model_act_391 : decode b_Model_act 391 = .ok (.iload 5, 2) := by decide +kernel
theorem d_Model_act_393 : decode b_Model_act 393 = .ok (.ifCond .eq 8, 3) := by decide +kernel
theorem d_Model_act_396 : decode b_Model_act 396 = .ok (.aload_n 0, 1) := by decide +kernel
theorem d_Model_act_397 : decode b_Model_act 397 = .ok (.iconst 0, 1) := by decide +kernel
theorem d_Model_act_398 : decode b_Model_act 398 = .ok (.invokevirtual 92, 3) := by decide +kernel
theorem d_Model_act_401 : decode b_Model_act 401 = .ok (.bipush 18, 2) := by decide +kernel
theorem d_Model_act_403 : decode b_Model_act 403 = .ok (.ireturn, 1) := by decide +kernel
theorem d_Model_act_404 : decode b_Model_act 404 = .ok (.aload_n 0, 1) := by decide +kernel
theorem d_Model_act_405 : decode b_Model_act 405 = .ok (.iconst 2, 1) := by decide +kernel
theorem d_Model_act_406 : decode b_Model_act 406 = .ok (.invokevirtual 115, 3) := by decide +kernel
theorem d_Model_act_409 : decode b_Model_act 409 = .ok (.iconst 1, 1) := by decide +kernel
theorem d_Model_act_410 : decode b_Model_act 410 = .ok (.ireturn, 1) := by decide +kernel
theorem d_Model_act_411 : decode b_Model_act 411 = .ok (.iconst 5, 1) := by decide +kernel
theorem d_Model_act_412 : decode b_Model_act 412 = .ok (.ireturn, 1) := by decide +kernel
theorem d_Model_act_413 : decode b_Model_act 413 = .ok (.bipush (-104), 2) := by decide +kernel
theorem d_Model_act_415 : decode b_Model_act 415 = .ok (.ireturn, 1) := by decide +kernel
theorem d_Model_init_0 : decode b_Model_init 0 = .ok (.aload_n 0, 1) := by decide +kernel
theorem d_Model_init_1 : decode b_Model_init 1 = .ok (.invokespecial 1, 3) := by decide +kernel
theorem d_Model_init_4 : decode b_Model_init 4 = .ok (.aload_n 0, 1) := by decide +kernel
theorem d_Model_init_5 : decode b_Model_init 5 = .ok (.sipush 136, 3) := by decide +kernel
theorem d_Model_init_8 : decode b_Model_init 8 = .ok (.newarray .int, 2) := by decide +kernel
theorem d_Model_init_10 : decode b_Model_init 10 = .ok (.putfield 7, 3) := by decide +kernel
theorem d_Model_init_13 : decode b_Model_init 13 = .ok (.aload_n 0, 1) := by decide +kernel
theorem d_Model_init_14 : decode b_Model_init 14 = .ok (.bipush 8, 2) := by decide +kernel
theorem d_Model_init_16 : decode b_Model_init 16 = .ok (.newarray .int, 2) := by decide +kernel
theorem d_Model_init_18 : decode b_Model_init 18 = .ok (.putfield 13, 3) := by decide +kernel
theorem d_Model_init_21 : decode b_Model_init 21 = .ok (.aload_n 0, 1) := by decide +kernel
theorem d_Model_init_22 : decode b_Model_init 22 = .ok (.bipush 8, 2) := by decide +kernel
theorem d_Model_init_24 : decode b_Model_init 24 = .ok (.newarray .int, 2) := by decide +kernel
theorem d_Model_init_26 : decode b_Model_init 26 = .ok (.putfield 16, 3) := by decide +kernel
theorem d_Model_init_29 : decode b_Model_init 29 = .ok (.aload_n 0, 1) := by decide +kernel
theorem d_Model_init_30 : decode b_Model_init 30 = .ok (.bipush 8, 2) := by decide +kernel
theorem d_Model_init_32 : decode b_Model_init 32 = .ok (.newarray .int, 2) := by decide +kernel
theorem d_Model_init_34 : decode b_Model_init 34 = .ok (.putfield 19, 3) := by decide +kernel
theorem d_Model_init_37 : decode b_Model_init 37 = .ok (.aload_n 0, 1) := by decide +kernel
theorem d_Model_init_38 : decode b_Model_init 38 = .ok (.bipush 8, 2) := by decide +kernel
theorem d_Model_init_40 : decode b_Model_init 40 = .ok (.newarray .int, 2) := by decide +kernel
theorem d_Model_init_42 : decode b_Model_init 42 = .ok (.putfield 22, 3) := by decide +kernel
theorem d_Model_init_45 : decode b_Model_init 45 = .ok (.aload_n 0, 1) := by decide +kernel
theorem d_Model_init_46 : decode b_Model_init 46 = .ok (.bipush 8, 2) := by decide +kernel
theorem d_Model_init_48 : decode b_Model_init 48 = .ok (.newarray .int, 2) := by decide +kernel
theorem d_Model_init_50 : decode b_Model_init 50 = .ok (.putfield 25, 3) := by decide +kernel
theorem d_Model_init_53 : decode b_Model_init 53 = .ok (.aload_n 0, 1) := by decide +kernel
theorem d_Model_init_54 : decode b_Model_init 54 = .ok (.sipush 512, 3) := by decide +kernel
theorem d_Model_init_57 : decode b_Model_init 57 = .ok (.newarray .int, 2) := by decide +kernel
theorem d_Model_init_59 : decode b_Model_init 59 = .ok (.putfield 28, 3) := by decide +kernel
theorem d_Model_init_62 : decode b_Model_init 62 = .ok (.aload_n 0, 1) := by decide +kernel
theorem d_Model_init_63 : decode b_Model_init 63 = .ok (.bipush 8, 2) := by decide +kernel
theorem d_Model_init_65 : decode b_Model_init 65 = .ok (.newarray .int, 2) := by decide +kernel
theorem d_Model_init_67 : decode b_Model_init 67 = .ok (.putfield 31, 3) := by decide +kernel
theorem d_Model_init_70 : decode b_Model_init 70 = .ok (.aload_n 0, 1) := by decide +kernel
theorem d_Model_init_71 : decode b_Model_init 71 = .ok (.bipush 8, 2) := by decide +kernel
theorem d_Model_init_73 : decode b_Model_init 73 = .ok (.newarray .boolean, 2) := by decide +kernel
theorem d_Model_init_75 : decode b_Model_init 75 = .ok (.putfield 34, 3) := by decide +kernel
theorem d_Model_init_78 : decode b_Model_init 78 = .ok (.aload_n 0, 1) := by decide +kernel
theorem d_Model_init_79 : decode b_Model_init 79 = .ok (.bipush 8, 2) := by decide +kernel
theorem d_Model_init_81 : decode b_Model_init 81 = .ok (.newarray .boolean, 2) := by decide +kernel
theorem d_Model_init_83 : decode b_Model_init 83 = .ok (.putfield 38, 3) := by decide +kernel
theorem d_Model_init_86 : decode b_Model_init 86 = .ok (.aload_n 0, 1) := by decide +kernel
theorem d_Model_init_87 : decode b_Model_init 87 = .ok (.iconst (-1), 1) := by decide +kernel
theorem d_Model_init_88 : decode b_Model_init 88 = .ok (.putfield 41, 3) := by decide +kernel
theorem d_Model_init_91 : decode b_Model_init 91 = .ok (.aload_n 0, 1) := by decide +kernel
theorem d_Model_init_92 : decode b_Model_init 92 = .ok (.bipush 6, 2) := by decide +kernel
theorem d_Model_init_94 : decode b_Model_init 94 = .ok (.newarray .int, 2) := by decide +kernel
theorem d_Model_init_96 : decode b_Model_init 96 = .ok (.putfield 45, 3) := by decide +kernel
theorem d_Model_init_99 : decode b_Model_init 99 = .ok (.aload_n 0, 1) := by decide +kernel
theorem d_Model_init_100 : decode b_Model_init 100 = .ok (.bipush 6, 2) := by decide +kernel
theorem d_Model_init_102 : decode b_Model_init 102 = .ok (.newarray .int, 2) := by decide +kernel
theorem d_Model_init_104 : decode b_Model_init 104 = .ok (.putfield 48, 3) := by decide +kernel
theorem d_Model_init_107 : decode b_Model_init 107 = .ok (.iconst 0, 1) := by decide +kernel
theorem d_Model_init_108 : decode b_Model_init 108 = .ok (.istore_n 1, 1) := by decide +kernel
theorem d_Model_init_109 : decode b_Model_init 109 = .ok (.iload_n 1, 1) := by decide +kernel
theorem d_Model_init_110 : decode b_Model_init 110 = .ok (.bipush 6, 2) := by decide +kernel
theorem d_Model_init_112 : decode b_Model_init 112 = .ok (.if_icmp .ge 16, 3) := by decide +kernel
theorem d_Model_init_115 : decode b_Model_init 115 = .ok (.aload_n 0, 1) := by decide +kernel
theorem d_Model_init_116 : decode b_Model_init 116 = .ok (.getfield 45, 3) := by decide +kernel
theorem d_Model_init_119 : decode b_Model_init 119 = .ok (.iload_n 1, 1) := by decide +kernel
theorem d_Model_init_120 : decode b_Model_init 120 = .ok (.iconst (-1), 1) := by decide +kernel
theorem d_Model_init_121 : decode b_Model_init 121 = .ok (.iastore, 1) := by decide +kernel
theorem d_Model_init_122 : decode b_Model_init 122 = .ok (.iinc 1 1, 3) := by decide +kernel
theorem d_Model_init_125 : decode b_Model_init 125 = .ok (.goto (-16), 3) := by decide +kernel
theorem d_Model_init_128 : decode b_Model_init 128 = .ok (.return_, 1) := by decide +kernel
