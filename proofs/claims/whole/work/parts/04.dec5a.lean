theorem dX5_init_0 : decode cX5_init 0 = .ok (.aload_n 0, 1) := by decide +kernel
theorem dX5_init_1 : decode cX5_init 1 = .ok (.invokespecial 1, 3) := by decide +kernel
theorem dX5_init_4 : decode cX5_init 4 = .ok (.aload_n 0, 1) := by decide +kernel
theorem dX5_init_5 : decode cX5_init 5 = .ok (.sipush 1200, 3) := by decide +kernel
theorem dX5_init_8 : decode cX5_init 8 = .ok (.newarray .int, 2) := by decide +kernel
theorem dX5_init_10 : decode cX5_init 10 = .ok (.putfield 7, 3) := by decide +kernel
theorem dX5_init_13 : decode cX5_init 13 = .ok (.aload_n 0, 1) := by decide +kernel
theorem dX5_init_14 : decode cX5_init 14 = .ok (.bipush 40, 2) := by decide +kernel
theorem dX5_init_16 : decode cX5_init 16 = .ok (.newarray .int, 2) := by decide +kernel
theorem dX5_init_18 : decode cX5_init 18 = .ok (.putfield 13, 3) := by decide +kernel
theorem dX5_init_21 : decode cX5_init 21 = .ok (.aload_n 0, 1) := by decide +kernel
theorem dX5_init_22 : decode cX5_init 22 = .ok (.bipush 16, 2) := by decide +kernel
theorem dX5_init_24 : decode cX5_init 24 = .ok (.newarray .int, 2) := by decide +kernel
theorem dX5_init_26 : decode cX5_init 26 = .ok (.putfield 16, 3) := by decide +kernel
theorem dX5_init_29 : decode cX5_init 29 = .ok (.aload_n 0, 1) := by decide +kernel
theorem dX5_init_30 : decode cX5_init 30 = .ok (.bipush 8, 2) := by decide +kernel
theorem dX5_init_32 : decode cX5_init 32 = .ok (.newarray .int, 2) := by decide +kernel
theorem dX5_init_34 : decode cX5_init 34 = .ok (.putfield 19, 3) := by decide +kernel
theorem dX5_init_37 : decode cX5_init 37 = .ok (.aload_n 0, 1) := by decide +kernel
theorem dX5_init_38 : decode cX5_init 38 = .ok (.sipush 192, 3) := by decide +kernel
theorem dX5_init_41 : decode cX5_init 41 = .ok (.newarray .int, 2) := by decide +kernel
theorem dX5_init_43 : decode cX5_init 43 = .ok (.putfield 22, 3) := by decide +kernel
theorem dX5_init_46 : decode cX5_init 46 = .ok (.aload_n 0, 1) := by decide +kernel
theorem dX5_init_47 : decode cX5_init 47 = .ok (.bipush 64, 2) := by decide +kernel
theorem dX5_init_49 : decode cX5_init 49 = .ok (.newarray .int, 2) := by decide +kernel
theorem dX5_init_51 : decode cX5_init 51 = .ok (.putfield 25, 3) := by decide +kernel
theorem dX5_init_54 : decode cX5_init 54 = .ok (.aload_n 0, 1) := by decide +kernel
theorem dX5_init_55 : decode cX5_init 55 = .ok (.bipush 16, 2) := by decide +kernel
theorem dX5_init_57 : decode cX5_init 57 = .ok (.newarray .int, 2) := by decide +kernel
theorem dX5_init_59 : decode cX5_init 59 = .ok (.putfield 28, 3) := by decide +kernel
theorem dX5_init_62 : decode cX5_init 62 = .ok (.aload_n 0, 1) := by decide +kernel
theorem dX5_init_63 : decode cX5_init 63 = .ok (.bipush 32, 2) := by decide +kernel
theorem dX5_init_65 : decode cX5_init 65 = .ok (.newarray .int, 2) := by decide +kernel
theorem dX5_init_67 : decode cX5_init 67 = .ok (.putfield 31, 3) := by decide +kernel
theorem dX5_init_70 : decode cX5_init 70 = .ok (.aload_n 0, 1) := by decide +kernel
theorem dX5_init_71 : decode cX5_init 71 = .ok (.bipush 16, 2) := by decide +kernel
theorem dX5_init_73 : decode cX5_init 73 = .ok (.newarray .int, 2) := by decide +kernel
theorem dX5_init_75 : decode cX5_init 75 = .ok (.putfield 34, 3) := by decide +kernel
theorem dX5_init_78 : decode cX5_init 78 = .ok (.aload_n 0, 1) := by decide +kernel
theorem dX5_init_79 : decode cX5_init 79 = .ok (.bipush 8, 2) := by decide +kernel
theorem dX5_init_81 : decode cX5_init 81 = .ok (.newarray .int, 2) := by decide +kernel
theorem dX5_init_83 : decode cX5_init 83 = .ok (.putfield 37, 3) := by decide +kernel
theorem dX5_init_86 : decode cX5_init 86 = .ok (.aload_n 0, 1) := by decide +kernel
theorem dX5_init_87 : decode cX5_init 87 = .ok (.sipush 1200, 3) := by decide +kernel
theorem dX5_init_90 : decode cX5_init 90 = .ok (.newarray .int, 2) := by decide +kernel
theorem dX5_init_92 : decode cX5_init 92 = .ok (.putfield 40, 3) := by decide +kernel
theorem dX5_init_95 : decode cX5_init 95 = .ok (.aload_n 0, 1) := by decide +kernel
theorem dX5_init_96 : decode cX5_init 96 = .ok (.sipush 128, 3) := by decide +kernel
theorem dX5_init_99 : decode cX5_init 99 = .ok (.newarray .int, 2) := by decide +kernel
theorem dX5_init_101 : decode cX5_init 101 = .ok (.putfield 43, 3) := by decide +kernel
theorem dX5_init_104 : decode cX5_init 104 = .ok (.aload_n 0, 1) := by decide +kernel
theorem dX5_init_105 : decode cX5_init 105 = .ok (.sipush 128, 3) := by decide +kernel
theorem dX5_init_108 : decode cX5_init 108 = .ok (.newarray .int, 2) := by decide +kernel
theorem dX5_init_110 : decode cX5_init 110 = .ok (.putfield 46, 3) := by decide +kernel
theorem dX5_init_113 : decode cX5_init 113 = .ok (.aload_n 0, 1) := by decide +kernel
theorem dX5_init_114 : decode cX5_init 114 = .ok (.invokevirtual 49, 3) := by decide +kernel
theorem dX5_init_117 : decode cX5_init 117 = .ok (.aload_n 0, 1) := by decide +kernel
theorem dX5_init_118 : decode cX5_init 118 = .ok (.iconst 1, 1) := by decide +kernel
theorem dX5_init_119 : decode cX5_init 119 = .ok (.putfield 52, 3) := by decide +kernel
theorem dX5_init_122 : decode cX5_init 122 = .ok (.return_, 1) := by decide +kernel
theorem dX5_thrown_0 : decode cX5_thrown 0 = .ok (.aload_n 0, 1) := by decide +kernel
theorem dX5_thrown_1 : decode cX5_thrown 1 = .ok (.getfield 56, 3) := by decide +kernel
theorem dX5_thrown_4 : decode cX5_thrown 4 = .ok (.ireturn, 1) := by decide +kernel
theorem dX5_refused_0 : decode cX5_refused 0 = .ok (.aload_n 0, 1) := by decide +kernel
theorem dX5_refused_1 : decode cX5_refused 1 = .ok (.iload_n 1, 1) := by decide +kernel
theorem dX5_refused_2 : decode cX5_refused 2 = .ok (.putfield 56, 3) := by decide +kernel
theorem dX5_refused_5 : decode cX5_refused 5 = .ok (.iload_n 1, 1) := by decide +kernel
theorem dX5_refused_6 : decode cX5_refused 6 = .ok (.ifCond .le 7, 3) := by decide +kernel
theorem dX5_refused_9 : decode cX5_refused 9 = .ok (.iconst 1, 1) := by decide +kernel
theorem dX5_refused_10 : decode cX5_refused 10 = .ok (.goto 4, 3) := by decide +kernel
theorem dX5_refused_13 : decode cX5_refused 13 = .ok (.iconst 0, 1) := by decide +kernel
theorem dX5_refused_14 : decode cX5_refused 14 = .ok (.ireturn, 1) := by decide +kernel
theorem dX5_forget_0 : decode cX5_forget 0 = .ok (.aload_n 0, 1) := by decide +kernel
theorem dX5_forget_1 : decode cX5_forget 1 = .ok (.iconst 0, 1) := by decide +kernel
theorem dX5_forget_2 : decode cX5_forget 2 = .ok (.putfield 60, 3) := by decide +kernel
theorem dX5_forget_5 : decode cX5_forget 5 = .ok (.aload_n 0, 1) := by decide +kernel
theorem dX5_forget_6 : decode cX5_forget 6 = .ok (.iconst (-1), 1) := by decide +kernel
theorem dX5_forget_7 : decode cX5_forget 7 = .ok (.putfield 63, 3) := by decide +kernel
theorem dX5_forget_10 : decode cX5_forget 10 = .ok (.aload_n 0, 1) := by decide +kernel
theorem dX5_forget_11 : decode cX5_forget 11 = .ok (.iconst (-1), 1) := by decide +kernel
theorem dX5_forget_12 : decode cX5_forget 12 = .ok (.putfield 66, 3) := by decide +kernel
theorem dX5_forget_15 : decode cX5_forget 15 = .ok (.aload_n 0, 1) := by decide +kernel
theorem dX5_forget_16 : decode cX5_forget 16 = .ok (.iconst 0, 1) := by decide +kernel
theorem dX5_forget_17 : decode cX5_forget 17 = .ok (.putfield 69, 3) := by decide +kernel
theorem dX5_forget_20 : decode cX5_forget 20 = .ok (.aload_n 0, 1) := by decide +kernel
theorem dX5_forget_21 : decode cX5_forget 21 = .ok (.iconst 0, 1) := by decide +kernel
theorem dX5_forget_22 : decode cX5_forget 22 = .ok (.putfield 72, 3) := by decide +kernel
theorem dX5_forget_25 : decode cX5_forget 25 = .ok (.aload_n 0, 1) := by decide +kernel
theorem dX5_forget_26 : decode cX5_forget 26 = .ok (.iconst 0, 1) := by decide +kernel
theorem dX5_forget_27 : decode cX5_forget 27 = .ok (.putfield 75, 3) := by decide +kernel
theorem dX5_forget_30 : decode cX5_forget 30 = .ok (.return_, 1) := by decide +kernel
theorem dX5_round_0 : decode cX5_round 0 = .ok (.iload_n 0, 1) := by decide +kernel
theorem dX5_round_1 : decode cX5_round 1 = .ok (.tableswitch 456 0 62 #[267, 270, 273, 276, 279, 282, 285, 288, 291, 294, 297, 300, 303, 306, 309, 312, 315, 318, 321, 324, 327, 330, 333, 336, 339, 342, 345, 348, 351, 354, 357, 360, 363, 366, 369, 372, 375, 378, 381, 384, 387, 390, 393, 396, 399, 402, 405, 408, 411, 414, 417, 420, 423, 426, 429, 432, 435, 438, 441, 444, 447, 450, 453], 267) := by decide +kernel
theorem dX5_round_268 : decode cX5_round 268 = .ok (.ldc 78, 2) := by decide +kernel
theorem dX5_round_270 : decode cX5_round 270 = .ok (.ireturn, 1) := by decide +kernel
theorem dX5_round_271 : decode cX5_round 271 = .ok (.ldc 79, 2) := by decide +kernel
theorem dX5_round_273 : decode cX5_round 273 = .ok (.ireturn, 1) := by decide +kernel
theorem dX5_round_274 : decode cX5_round 274 = .ok (.ldc 80, 2) := by decide +kernel
theorem dX5_round_276 : decode cX5_round 276 = .ok (.ireturn, 1) := by decide +kernel
theorem dX5_round_277 : decode cX5_round 277 = .ok (.ldc 81, 2) := by decide +kernel
theorem dX5_round_279 : decode cX5_round 279 = .ok (.ireturn, 1) := by decide +kernel
theorem dX5_round_280 : decode cX5_round 280 = .ok (.ldc 82, 2) := by decide +kernel
theorem dX5_round_282 : decode cX5_round 282 = .ok (.ireturn, 1) := by decide +kernel
theorem dX5_round_283 : decode cX5_round 283 = .ok (.ldc 83, 2) := by decide +kernel
theorem dX5_round_285 : decode cX5_round 285 = .ok (.ireturn, 1) := by decide +kernel
theorem dX5_round_286 : decode cX5_round 286 = .ok (.ldc 84, 2) := by decide +kernel
theorem dX5_round_288 : decode cX5_round 288 = .ok (.ireturn, 1) := by decide +kernel
theorem dX5_round_289 : decode cX5_round 289 = .ok (.ldc 85, 2) := by decide +kernel
theorem dX5_round_291 : decode cX5_round 291 = .ok (.ireturn, 1) := by decide +kernel
theorem dX5_round_292 : decode cX5_round 292 = .ok (.ldc 86, 2) := by decide +kernel
theorem dX5_round_294 : decode cX5_round 294 = .ok (.ireturn, 1) := by decide +kernel
theorem dX5_round_295 : decode cX5_round 295 = .ok (.ldc 87, 2) := by decide +kernel
theorem dX5_round_297 : decode cX5_round 297 = .ok (.ireturn, 1) := by decide +kernel
theorem dX5_round_298 : decode cX5_round 298 = .ok (.ldc 88, 2) := by decide +kernel
theorem dX5_round_300 : decode cX5_round 300 = .ok (.ireturn, 1) := by decide +kernel
theorem dX5_round_301 : decode cX5_round 301 = .ok (.ldc 89, 2) := by decide +kernel
theorem dX5_round_303 : decode cX5_round 303 = .ok (.ireturn, 1) := by decide +kernel
theorem dX5_round_304 : decode cX5_round 304 = .ok (.ldc 90, 2) := by decide +kernel
theorem dX5_round_306 : decode cX5_round 306 = .ok (.ireturn, 1) := by decide +kernel
theorem dX5_round_307 : decode cX5_round 307 = .ok (.ldc 91, 2) := by decide +kernel
theorem dX5_round_309 : decode cX5_round 309 = .ok (.ireturn, 1) := by decide +kernel
theorem dX5_round_310 : decode cX5_round 310 = .ok (.ldc 92, 2) := by decide +kernel
theorem dX5_round_312 : decode cX5_round 312 = .ok (.ireturn, 1) := by decide +kernel
theorem dX5_round_313 : decode cX5_round 313 = .ok (.ldc 93, 2) := by decide +kernel
theorem dX5_round_315 : decode cX5_round 315 = .ok (.ireturn, 1) := by decide +kernel
theorem dX5_round_316 : decode cX5_round 316 = .ok (.ldc 94, 2) := by decide +kernel
theorem dX5_round_318 : decode cX5_round 318 = .ok (.ireturn, 1) := by decide +kernel
theorem dX5_round_319 : decode cX5_round 319 = .ok (.ldc 95, 2) := by decide +kernel
theorem dX5_round_321 : decode cX5_round 321 = .ok (.ireturn, 1) := by decide +kernel
theorem dX5_round_322 : decode cX5_round 322 = .ok (.ldc 96, 2) := by decide +kernel
theorem dX5_round_324 : decode cX5_round 324 = .ok (.ireturn, 1) := by decide +kernel
theorem dX5_round_325 : decode cX5_round 325 = .ok (.ldc 97, 2) := by decide +kernel
theorem dX5_round_327 : decode cX5_round 327 = .ok (.ireturn, 1) := by decide +kernel
theorem dX5_round_328 : decode cX5_round 328 = .ok (.ldc 98, 2) := by decide +kernel
theorem dX5_round_330 : decode cX5_round 330 = .ok (.ireturn, 1) := by decide +kernel
theorem dX5_round_331 : decode cX5_round 331 = .ok (.ldc 99, 2) := by decide +kernel
theorem dX5_round_333 : decode cX5_round 333 = .ok (.ireturn, 1) := by decide +kernel
theorem dX5_round_334 : decode cX5_round 334 = .ok (.ldc 100, 2) := by decide +kernel
theorem dX5_round_336 : decode cX5_round 336 = .ok (.ireturn, 1) := by decide +kernel
theorem dX5_round_337 : decode cX5_round 337 = .ok (.ldc 101, 2) := by decide +kernel
theorem dX5_round_339 : decode cX5_round 339 = .ok (.ireturn, 1) := by decide +kernel
theorem dX5_round_340 : decode cX5_round 340 = .ok (.ldc 102, 2) := by decide +kernel
theorem dX5_round_342 : decode cX5_round 342 = .ok (.ireturn, 1) := by decide +kernel
theorem dX5_round_343 : decode cX5_round 343 = .ok (.ldc 103, 2) := by decide +kernel
theorem dX5_round_345 : decode cX5_round 345 = .ok (.ireturn, 1) := by decide +kernel
theorem dX5_round_346 : decode cX5_round 346 = .ok (.ldc 104, 2) := by decide +kernel
theorem dX5_round_348 : decode cX5_round 348 = .ok (.ireturn, 1) := by decide +kernel
theorem dX5_round_349 : decode cX5_round 349 = .ok (.ldc 105, 2) := by decide +kernel
theorem dX5_round_351 : decode cX5_round 351 = .ok (.ireturn, 1) := by decide +kernel
theorem dX5_round_352 : decode cX5_round 352 = .ok (.ldc 106, 2) := by decide +kernel
theorem dX5_round_354 : decode cX5_round 354 = .ok (.ireturn, 1) := by decide +kernel
theorem dX5_round_355 : decode cX5_round 355 = .ok (.ldc 107, 2) := by decide +kernel
theorem dX5_round_357 : decode cX5_round 357 = .ok (.ireturn, 1) := by decide +kernel
theorem dX5_round_358 : decode cX5_round 358 = .ok (.ldc 108, 2) := by decide +kernel
theorem dX5_round_360 : decode cX5_round 360 = .ok (.ireturn, 1) := by decide +kernel
theorem dX5_round_361 : decode cX5_round 361 = .ok (.ldc 109, 2) := by decide +kernel
theorem dX5_round_363 : decode cX5_round 363 = .ok (.ireturn, 1) := by decide +kernel
theorem dX5_round_364 : decode cX5_round 364 = .ok (.ldc 110, 2) := by decide +kernel
theorem dX5_round_366 : decode cX5_round 366 = .ok (.ireturn, 1) := by decide +kernel
theorem dX5_round_367 : decode cX5_round 367 = .ok (.ldc 111, 2) := by decide +kernel
theorem dX5_round_369 : decode cX5_round 369 = .ok (.ireturn, 1) := by decide +kernel
theorem dX5_round_370 : decode cX5_round 370 = .ok (.ldc 112, 2) := by decide +kernel
theorem dX5_round_372 : decode cX5_round 372 = .ok (.ireturn, 1) := by decide +kernel
theorem dX5_round_373 : decode cX5_round 373 = .ok (.ldc 113, 2) := by decide +kernel
theorem dX5_round_375 : decode cX5_round 375 = .ok (.ireturn, 1) := by decide +kernel
theorem dX5_round_376 : decode cX5_round 376 = .ok (.ldc 114, 2) := by decide +kernel
theorem dX5_round_378 : decode cX5_round 378 = .ok (.ireturn, 1) := by decide +kernel
theorem dX5_round_379 : decode cX5_round 379 = .ok (.ldc 115, 2) := by decide +kernel
theorem dX5_round_381 : decode cX5_round 381 = .ok (.ireturn, 1) := by decide +kernel
theorem dX5_round_382 : decode cX5_round 382 = .ok (.ldc 116, 2) := by decide +kernel
theorem dX5_round_384 : decode cX5_round 384 = .ok (.ireturn, 1) := by decide +kernel
theorem dX5_round_385 : decode cX5_round 385 = .ok (.ldc 117, 2) := by decide +kernel
theorem dX5_round_387 : decode cX5_round 387 = .ok (.ireturn, 1) := by decide +kernel
theorem dX5_round_388 : decode cX5_round 388 = .ok (.ldc 118, 2) := by decide +kernel
theorem dX5_round_390 : decode cX5_round 390 = .ok (.ireturn, 1) := by decide +kernel
theorem dX5_round_391 : decode cX5_round 391 = .ok (.ldc 119, 2) := by decide +kernel
theorem dX5_round_393 : decode cX5_round 393 = .ok (.ireturn, 1) := by decide +kernel
theorem dX5_round_394 : decode cX5_round 394 = .ok (.ldc 120, 2) := by decide +kernel
theorem dX5_round_396 : decode cX5_round 396 = .ok (.ireturn, 1) := by decide +kernel
theorem dX5_round_397 : decode cX5_round 397 = .ok (.ldc 121, 2) := by decide +kernel
theorem dX5_round_399 : decode cX5_round 399 = .ok (.ireturn, 1) := by decide +kernel
theorem dX5_round_400 : decode cX5_round 400 = .ok (.ldc 122, 2) := by decide +kernel
theorem dX5_round_402 : decode cX5_round 402 = .ok (.ireturn, 1) := by decide +kernel
theorem dX5_round_403 : decode cX5_round 403 = .ok (.ldc 123, 2) := by decide +kernel
theorem dX5_round_405 : decode cX5_round 405 = .ok (.ireturn, 1) := by decide +kernel
theorem dX5_round_406 : decode cX5_round 406 = .ok (.ldc 124, 2) := by decide +kernel
theorem dX5_round_408 : decode cX5_round 408 = .ok (.ireturn, 1) := by decide +kernel
theorem dX5_round_409 : decode cX5_round 409 = .ok (.ldc 125, 2) := by decide +kernel
theorem dX5_round_411 : decode cX5_round 411 = .ok (.ireturn, 1) := by decide +kernel
theorem dX5_round_412 : decode cX5_round 412 = .ok (.ldc 126, 2) := by decide +kernel
theorem dX5_round_414 : decode cX5_round 414 = .ok (.ireturn, 1) := by decide +kernel
theorem dX5_round_415 : decode cX5_round 415 = .ok (.ldc 127, 2) := by decide +kernel
theorem dX5_round_417 : decode cX5_round 417 = .ok (.ireturn, 1) := by decide +kernel
theorem dX5_round_418 : decode cX5_round 418 = .ok (.ldc 128, 2) := by decide +kernel
theorem dX5_round_420 : decode cX5_round 420 = .ok (.ireturn, 1) := by decide +kernel
theorem dX5_round_421 : decode cX5_round 421 = .ok (.ldc 129, 2) := by decide +kernel
theorem dX5_round_423 : decode cX5_round 423 = .ok (.ireturn, 1) := by decide +kernel
theorem dX5_round_424 : decode cX5_round 424 = .ok (.ldc 130, 2) := by decide +kernel
theorem dX5_round_426 : decode cX5_round 426 = .ok (.ireturn, 1) := by decide +kernel
theorem dX5_round_427 : decode cX5_round 427 = .ok (.ldc 131, 2) := by decide +kernel
theorem dX5_round_429 : decode cX5_round 429 = .ok (.ireturn, 1) := by decide +kernel
theorem dX5_round_430 : decode cX5_round 430 = .ok (.ldc 132, 2) := by decide +kernel
theorem dX5_round_432 : decode cX5_round 432 = .ok (.ireturn, 1) := by decide +kernel
theorem dX5_round_433 : decode cX5_round 433 = .ok (.ldc 133, 2) := by decide +kernel
theorem dX5_round_435 : decode cX5_round 435 = .ok (.ireturn, 1) := by decide +kernel
theorem dX5_round_436 : decode cX5_round 436 = .ok (.ldc 134, 2) := by decide +kernel
theorem dX5_round_438 : decode cX5_round 438 = .ok (.ireturn, 1) := by decide +kernel
theorem dX5_round_439 : decode cX5_round 439 = .ok (.ldc 135, 2) := by decide +kernel
theorem dX5_round_441 : decode cX5_round 441 = .ok (.ireturn, 1) := by decide +kernel
theorem dX5_round_442 : decode cX5_round 442 = .ok (.ldc 136, 2) := by decide +kernel
theorem dX5_round_444 : decode cX5_round 444 = .ok (.ireturn, 1) := by decide +kernel
theorem dX5_round_445 : decode cX5_round 445 = .ok (.ldc 137, 2) := by decide +kernel
theorem dX5_round_447 : decode cX5_round 447 = .ok (.ireturn, 1) := by decide +kernel
theorem dX5_round_448 : decode cX5_round 448 = .ok (.ldc 138, 2) := by decide +kernel
theorem dX5_round_450 : decode cX5_round 450 = .ok (.ireturn, 1) := by decide +kernel
theorem dX5_round_451 : decode cX5_round 451 = .ok (.ldc 139, 2) := by decide +kernel
theorem dX5_round_453 : decode cX5_round 453 = .ok (.ireturn, 1) := by decide +kernel
theorem dX5_round_454 : decode cX5_round 454 = .ok (.ldc 140, 2) := by decide +kernel
theorem dX5_round_456 : decode cX5_round 456 = .ok (.ireturn, 1) := by decide +kernel
theorem dX5_round_457 : decode cX5_round 457 = .ok (.ldc 141, 2) := by decide +kernel
theorem dX5_round_459 : decode cX5_round 459 = .ok (.ireturn, 1) := by decide +kernel
theorem dX5_first_0 : decode cX5_first 0 = .ok (.iload_n 0, 1) := by decide +kernel
theorem dX5_first_1 : decode cX5_first 1 = .ok (.tableswitch 64 0 6 #[43, 46, 49, 52, 55, 58, 61], 43) := by decide +kernel
theorem dX5_first_44 : decode cX5_first 44 = .ok (.ldc 142, 2) := by decide +kernel
theorem dX5_first_46 : decode cX5_first 46 = .ok (.ireturn, 1) := by decide +kernel
theorem dX5_first_47 : decode cX5_first 47 = .ok (.ldc 143, 2) := by decide +kernel
theorem dX5_first_49 : decode cX5_first 49 = .ok (.ireturn, 1) := by decide +kernel
theorem dX5_first_50 : decode cX5_first 50 = .ok (.ldc 144, 2) := by decide +kernel
theorem dX5_first_52 : decode cX5_first 52 = .ok (.ireturn, 1) := by decide +kernel
theorem dX5_first_53 : decode cX5_first 53 = .ok (.ldc 145, 2) := by decide +kernel
theorem dX5_first_55 : decode cX5_first 55 = .ok (.ireturn, 1) := by decide +kernel
theorem dX5_first_56 : decode cX5_first 56 = .ok (.ldc 146, 2) := by decide +kernel
theorem dX5_first_58 : decode cX5_first 58 = .ok (.ireturn, 1) := by decide +kernel
theorem dX5_first_59 : decode cX5_first 59 = .ok (.ldc 147, 2) := by decide +kernel
theorem dX5_first_61 : decode cX5_first 61 = .ok (.ireturn, 1) := by decide +kernel
theorem dX5_first_62 : decode cX5_first 62 = .ok (.ldc 148, 2) := by decide +kernel
theorem dX5_first_64 : decode cX5_first 64 = .ok (.ireturn, 1) := by decide +kernel
theorem dX5_first_65 : decode cX5_first 65 = .ok (.ldc 149, 2) := by decide +kernel
theorem dX5_first_67 : decode cX5_first 67 = .ok (.ireturn, 1) := by decide +kernel
theorem dX5_right_0 : decode cX5_right 0 = .ok (.iload_n 0, 1) := by decide +kernel
theorem dX5_right_1 : decode cX5_right 1 = .ok (.iload_n 1, 1) := by decide +kernel
theorem dX5_right_2 : decode cX5_right 2 = .ok (.iushr, 1) := by decide +kernel
theorem dX5_right_3 : decode cX5_right 3 = .ok (.iload_n 0, 1) := by decide +kernel
theorem dX5_right_4 : decode cX5_right 4 = .ok (.bipush 32, 2) := by decide +kernel
theorem dX5_right_6 : decode cX5_right 6 = .ok (.iload_n 1, 1) := by decide +kernel
theorem dX5_right_7 : decode cX5_right 7 = .ok (.isub, 1) := by decide +kernel
theorem dX5_right_8 : decode cX5_right 8 = .ok (.ishl, 1) := by decide +kernel
theorem dX5_right_9 : decode cX5_right 9 = .ok (.ior, 1) := by decide +kernel
theorem dX5_right_10 : decode cX5_right 10 = .ok (.ireturn, 1) := by decide +kernel
theorem dX5_add_0 : decode cX5_add 0 = .ok (.aload_n 0, 1) := by decide +kernel
theorem dX5_add_1 : decode cX5_add 1 = .ok (.getfield 22, 3) := by decide +kernel
theorem dX5_add_4 : decode cX5_add 4 = .ok (.aload_n 0, 1) := by decide +kernel
theorem dX5_add_5 : decode cX5_add 5 = .ok (.getfield 150, 3) := by decide +kernel
theorem dX5_add_8 : decode cX5_add 8 = .ok (.iload_n 1, 1) := by decide +kernel
theorem dX5_add_9 : decode cX5_add 9 = .ok (.sipush 255, 3) := by decide +kernel
theorem dX5_add_12 : decode cX5_add 12 = .ok (.iand, 1) := by decide +kernel
theorem dX5_add_13 : decode cX5_add 13 = .ok (.iastore, 1) := by decide +kernel
theorem dX5_add_14 : decode cX5_add 14 = .ok (.aload_n 0, 1) := by decide +kernel
theorem dX5_add_15 : decode cX5_add 15 = .ok (.dup, 1) := by decide +kernel
theorem dX5_add_16 : decode cX5_add 16 = .ok (.getfield 150, 3) := by decide +kernel
theorem dX5_add_19 : decode cX5_add 19 = .ok (.iconst 1, 1) := by decide +kernel
theorem dX5_add_20 : decode cX5_add 20 = .ok (.iadd, 1) := by decide +kernel
theorem dX5_add_21 : decode cX5_add 21 = .ok (.putfield 150, 3) := by decide +kernel
theorem dX5_add_24 : decode cX5_add 24 = .ok (.return_, 1) := by decide +kernel
theorem dX5_addNumber_0 : decode cX5_addNumber 0 = .ok (.bipush 24, 2) := by decide +kernel
theorem dX5_addNumber_2 : decode cX5_addNumber 2 = .ok (.istore_n 2, 1) := by decide +kernel
theorem dX5_addNumber_3 : decode cX5_addNumber 3 = .ok (.iload_n 2, 1) := by decide +kernel
theorem dX5_addNumber_4 : decode cX5_addNumber 4 = .ok (.ifCond .lt 18, 3) := by decide +kernel
theorem dX5_addNumber_7 : decode cX5_addNumber 7 = .ok (.aload_n 0, 1) := by decide +kernel
theorem dX5_addNumber_8 : decode cX5_addNumber 8 = .ok (.iload_n 1, 1) := by decide +kernel
theorem dX5_addNumber_9 : decode cX5_addNumber 9 = .ok (.iload_n 2, 1) := by decide +kernel
theorem dX5_addNumber_10 : decode cX5_addNumber 10 = .ok (.ishr, 1) := by decide +kernel
theorem dX5_addNumber_11 : decode cX5_addNumber 11 = .ok (.invokevirtual 153, 3) := by decide +kernel
theorem dX5_addNumber_14 : decode cX5_addNumber 14 = .ok (.iload_n 2, 1) := by decide +kernel
theorem dX5_addNumber_15 : decode cX5_addNumber 15 = .ok (.bipush 8, 2) := by decide +kernel
theorem dX5_addNumber_17 : decode cX5_addNumber 17 = .ok (.isub, 1) := by decide +kernel
theorem dX5_addNumber_18 : decode cX5_addNumber 18 = .ok (.istore_n 2, 1) := by decide +kernel
theorem dX5_addNumber_19 : decode cX5_addNumber 19 = .ok (.goto (-16), 3) := by decide +kernel
theorem dX5_addNumber_22 : decode cX5_addNumber 22 = .ok (.return_, 1) := by decide +kernel
theorem dX5_block_0 : decode cX5_block 0 = .ok (.iconst 0, 1) := by decide +kernel
theorem dX5_block_1 : decode cX5_block 1 = .ok (.istore_n 2, 1) := by decide +kernel
theorem dX5_block_2 : decode cX5_block 2 = .ok (.iload_n 2, 1) := by decide +kernel
theorem dX5_block_3 : decode cX5_block 3 = .ok (.bipush 64, 2) := by decide +kernel
theorem dX5_block_5 : decode cX5_block 5 = .ok (.if_icmp .ge 159, 3) := by decide +kernel
theorem dX5_block_8 : decode cX5_block 8 = .ok (.iload_n 2, 1) := by decide +kernel
theorem dX5_block_9 : decode cX5_block 9 = .ok (.bipush 16, 2) := by decide +kernel
theorem dX5_block_11 : decode cX5_block 11 = .ok (.if_icmp .ge 54, 3) := by decide +kernel
theorem dX5_block_14 : decode cX5_block 14 = .ok (.aload_n 0, 1) := by decide +kernel
theorem dX5_block_15 : decode cX5_block 15 = .ok (.getfield 25, 3) := by decide +kernel
theorem dX5_block_18 : decode cX5_block 18 = .ok (.iload_n 2, 1) := by decide +kernel
theorem dX5_block_19 : decode cX5_block 19 = .ok (.iconst 0, 1) := by decide +kernel
theorem dX5_block_20 : decode cX5_block 20 = .ok (.iastore, 1) := by decide +kernel
theorem dX5_block_21 : decode cX5_block 21 = .ok (.iconst 0, 1) := by decide +kernel
theorem dX5_block_22 : decode cX5_block 22 = .ok (.istore_n 3, 1) := by decide +kernel
theorem dX5_block_23 : decode cX5_block 23 = .ok (.iload_n 3, 1) := by decide +kernel
theorem dX5_block_24 : decode cX5_block 24 = .ok (.iconst 4, 1) := by decide +kernel
theorem dX5_block_25 : decode cX5_block 25 = .ok (.if_icmp .ge 37, 3) := by decide +kernel
theorem dX5_block_28 : decode cX5_block 28 = .ok (.aload_n 0, 1) := by decide +kernel
theorem dX5_block_29 : decode cX5_block 29 = .ok (.getfield 25, 3) := by decide +kernel
theorem dX5_block_32 : decode cX5_block 32 = .ok (.iload_n 2, 1) := by decide +kernel
theorem dX5_block_33 : decode cX5_block 33 = .ok (.aload_n 0, 1) := by decide +kernel
theorem dX5_block_34 : decode cX5_block 34 = .ok (.getfield 25, 3) := by decide +kernel
theorem dX5_block_37 : decode cX5_block 37 = .ok (.iload_n 2, 1) := by decide +kernel
theorem dX5_block_38 : decode cX5_block 38 = .ok (.iaload, 1) := by decide +kernel
theorem dX5_block_39 : decode cX5_block 39 = .ok (.bipush 8, 2) := by decide +kernel
theorem dX5_block_41 : decode cX5_block 41 = .ok (.ishl, 1) := by decide +kernel
theorem dX5_block_42 : decode cX5_block 42 = .ok (.aload_n 0, 1) := by decide +kernel
theorem dX5_block_43 : decode cX5_block 43 = .ok (.getfield 22, 3) := by decide +kernel
theorem dX5_block_46 : decode cX5_block 46 = .ok (.iload_n 1, 1) := by decide +kernel
theorem dX5_block_47 : decode cX5_block 47 = .ok (.iconst 4, 1) := by decide +kernel
theorem dX5_block_48 : decode cX5_block 48 = .ok (.iload_n 2, 1) := by decide +kernel
theorem dX5_block_49 : decode cX5_block 49 = .ok (.imul, 1) := by decide +kernel
theorem dX5_block_50 : decode cX5_block 50 = .ok (.iadd, 1) := by decide +kernel
theorem dX5_block_51 : decode cX5_block 51 = .ok (.iload_n 3, 1) := by decide +kernel
theorem dX5_block_52 : decode cX5_block 52 = .ok (.iadd, 1) := by decide +kernel
theorem dX5_block_53 : decode cX5_block 53 = .ok (.iaload, 1) := by decide +kernel
theorem dX5_block_54 : decode cX5_block 54 = .ok (.ior, 1) := by decide +kernel
theorem dX5_block_55 : decode cX5_block 55 = .ok (.iastore, 1) := by decide +kernel
theorem dX5_block_56 : decode cX5_block 56 = .ok (.iinc 3 1, 3) := by decide +kernel
theorem dX5_block_59 : decode cX5_block 59 = .ok (.goto (-36), 3) := by decide +kernel
theorem dX5_block_62 : decode cX5_block 62 = .ok (.goto 96, 3) := by decide +kernel
theorem dX5_block_65 : decode cX5_block 65 = .ok (.aload_n 0, 1) := by decide +kernel
theorem dX5_block_66 : decode cX5_block 66 = .ok (.getfield 25, 3) := by decide +kernel
theorem dX5_block_69 : decode cX5_block 69 = .ok (.iload_n 2, 1) := by decide +kernel
theorem dX5_block_70 : decode cX5_block 70 = .ok (.bipush 15, 2) := by decide +kernel
theorem dX5_block_72 : decode cX5_block 72 = .ok (.isub, 1) := by decide +kernel
theorem dX5_block_73 : decode cX5_block 73 = .ok (.iaload, 1) := by decide +kernel
theorem dX5_block_74 : decode cX5_block 74 = .ok (.istore_n 3, 1) := by decide +kernel
theorem dX5_block_75 : decode cX5_block 75 = .ok (.aload_n 0, 1) := by decide +kernel
theorem dX5_block_76 : decode cX5_block 76 = .ok (.getfield 25, 3) := by decide +kernel
theorem dX5_block_79 : decode cX5_block 79 = .ok (.iload_n 2, 1) := by decide +kernel
theorem dX5_block_80 : decode cX5_block 80 = .ok (.iconst 2, 1) := by decide +kernel
theorem dX5_block_81 : decode cX5_block 81 = .ok (.isub, 1) := by decide +kernel
theorem dX5_block_82 : decode cX5_block 82 = .ok (.iaload, 1) := by decide +kernel
theorem dX5_block_83 : decode cX5_block 83 = .ok (.istore 4, 2) := by decide +kernel
theorem dX5_block_85 : decode cX5_block 85 = .ok (.iload_n 3, 1) := by decide +kernel
theorem dX5_block_86 : decode cX5_block 86 = .ok (.bipush 7, 2) := by decide +kernel
theorem dX5_block_88 : decode cX5_block 88 = .ok (.invokestatic 157, 3) := by decide +kernel
theorem dX5_block_91 : decode cX5_block 91 = .ok (.iload_n 3, 1) := by decide +kernel
theorem dX5_block_92 : decode cX5_block 92 = .ok (.bipush 18, 2) := by decide +kernel
theorem dX5_block_94 : decode cX5_block 94 = .ok (.invokestatic 157, 3) := by decide +kernel
theorem dX5_block_97 : decode cX5_block 97 = .ok (.ixor, 1) := by decide +kernel
theorem dX5_block_98 : decode cX5_block 98 = .ok (.iload_n 3, 1) := by decide +kernel
theorem dX5_block_99 : decode cX5_block 99 = .ok (.iconst 3, 1) := by decide +kernel
theorem dX5_block_100 : decode cX5_block 100 = .ok (.iushr, 1) := by decide +kernel
theorem dX5_block_101 : decode cX5_block 101 = .ok (.ixor, 1) := by decide +kernel
theorem dX5_block_102 : decode cX5_block 102 = .ok (.istore 5, 2) := by decide +kernel
theorem dX5_block_104 : decode cX5_block 104 = .ok (.iload 4, 2) := by decide +kernel
theorem dX5_block_106 : decode cX5_block 106 = .ok (.bipush 17, 2) := by decide +kernel
theorem dX5_block_108 : decode cX5_block 108 = .ok (.invokestatic 157, 3) := by decide +kernel
theorem dX5_block_111 : decode cX5_block 111 = .ok (.iload 4, 2) := by decide +kernel
theorem dX5_block_113 : decode cX5_block 113 = .ok (.bipush 19, 2) := by decide +kernel
theorem dX5_block_115 : decode cX5_block 115 = .ok (.invokestatic 157, 3) := by decide +kernel
theorem dX5_block_118 : decode cX5_block 118 = .ok (.ixor, 1) := by decide +kernel
theorem dX5_block_119 : decode cX5_block 119 = .ok (.iload 4, 2) := by decide +kernel
theorem dX5_block_121 : decode cX5_block 121 = .ok (.bipush 10, 2) := by decide +kernel
theorem dX5_block_123 : decode cX5_block 123 = .ok (.iushr, 1) := by decide +kernel
theorem dX5_block_124 : decode cX5_block 124 = .ok (.ixor, 1) := by decide +kernel
theorem dX5_block_125 : decode cX5_block 125 = .ok (.istore 6, 2) := by decide +kernel
theorem dX5_block_127 : decode cX5_block 127 = .ok (.aload_n 0, 1) := by decide +kernel
theorem dX5_block_128 : decode cX5_block 128 = .ok (.getfield 25, 3) := by decide +kernel
theorem dX5_block_131 : decode cX5_block 131 = .ok (.iload_n 2, 1) := by decide +kernel
theorem dX5_block_132 : decode cX5_block 132 = .ok (.aload_n 0, 1) := by decide +kernel
theorem dX5_block_133 : decode cX5_block 133 = .ok (.getfield 25, 3) := by decide +kernel
theorem dX5_block_136 : decode cX5_block 136 = .ok (.iload_n 2, 1) := by decide +kernel
theorem dX5_block_137 : decode cX5_block 137 = .ok (.bipush 16, 2) := by decide +kernel
theorem dX5_block_139 : decode cX5_block 139 = .ok (.isub, 1) := by decide +kernel
theorem dX5_block_140 : decode cX5_block 140 = .ok (.iaload, 1) := by decide +kernel
theorem dX5_block_141 : decode cX5_block 141 = .ok (.iload 5, 2) := by decide +kernel
theorem dX5_block_143 : decode cX5_block 143 = .ok (.iadd, 1) := by decide +kernel
theorem dX5_block_144 : decode cX5_block 144 = .ok (.aload_n 0, 1) := by decide +kernel
theorem dX5_block_145 : decode cX5_block 145 = .ok (.getfield 25, 3) := by decide +kernel
theorem dX5_block_148 : decode cX5_block 148 = .ok (.iload_n 2, 1) := by decide +kernel
theorem dX5_block_149 : decode cX5_block 149 = .ok (.bipush 7, 2) := by decide +kernel
theorem dX5_block_151 : decode cX5_block 151 = .ok (.isub, 1) := by decide +kernel
theorem dX5_block_152 : decode cX5_block 152 = .ok (.iaload, 1) := by decide +kernel
theorem dX5_block_153 : decode cX5_block 153 = .ok (.iadd, 1) := by decide +kernel
theorem dX5_block_154 : decode cX5_block 154 = .ok (.iload 6, 2) := by decide +kernel
theorem dX5_block_156 : decode cX5_block 156 = .ok (.iadd, 1) := by decide +kernel
theorem dX5_block_157 : decode cX5_block 157 = .ok (.iastore, 1) := by decide +kernel
theorem dX5_block_158 : decode cX5_block 158 = .ok (.iinc 2 1, 3) := by decide +kernel
theorem dX5_block_161 : decode cX5_block 161 = .ok (.goto (-159), 3) := by decide +kernel
theorem dX5_block_164 : decode cX5_block 164 = .ok (.iconst 0, 1) := by decide +kernel
theorem dX5_block_165 : decode cX5_block 165 = .ok (.istore_n 2, 1) := by decide +kernel
theorem dX5_block_166 : decode cX5_block 166 = .ok (.iload_n 2, 1) := by decide +kernel
theorem dX5_block_167 : decode cX5_block 167 = .ok (.bipush 8, 2) := by decide +kernel
theorem dX5_block_169 : decode cX5_block 169 = .ok (.if_icmp .ge 24, 3) := by decide +kernel
theorem dX5_block_172 : decode cX5_block 172 = .ok (.aload_n 0, 1) := by decide +kernel
theorem dX5_block_173 : decode cX5_block 173 = .ok (.getfield 28, 3) := by decide +kernel
theorem dX5_block_176 : decode cX5_block 176 = .ok (.bipush 8, 2) := by decide +kernel
theorem dX5_block_178 : decode cX5_block 178 = .ok (.iload_n 2, 1) := by decide +kernel
theorem dX5_block_179 : decode cX5_block 179 = .ok (.iadd, 1) := by decide +kernel
theorem dX5_block_180 : decode cX5_block 180 = .ok (.aload_n 0, 1) := by decide +kernel
theorem dX5_block_181 : decode cX5_block 181 = .ok (.getfield 28, 3) := by decide +kernel
theorem dX5_block_184 : decode cX5_block 184 = .ok (.iload_n 2, 1) := by decide +kernel
theorem dX5_block_185 : decode cX5_block 185 = .ok (.iaload, 1) := by decide +kernel
theorem dX5_block_186 : decode cX5_block 186 = .ok (.iastore, 1) := by decide +kernel
theorem dX5_block_187 : decode cX5_block 187 = .ok (.iinc 2 1, 3) := by decide +kernel
theorem dX5_block_190 : decode cX5_block 190 = .ok (.goto (-24), 3) := by decide +kernel
theorem dX5_block_193 : decode cX5_block 193 = .ok (.iconst 0, 1) := by decide +kernel
theorem dX5_block_194 : decode cX5_block 194 = .ok (.istore_n 2, 1) := by decide +kernel
theorem dX5_block_195 : decode cX5_block 195 = .ok (.iload_n 2, 1) := by decide +kernel
theorem dX5_block_196 : decode cX5_block 196 = .ok (.bipush 64, 2) := by decide +kernel
theorem dX5_block_198 : decode cX5_block 198 = .ok (.if_icmp .ge 222, 3) := by decide +kernel
theorem dX5_block_201 : decode cX5_block 201 = .ok (.aload_n 0, 1) := by decide +kernel
theorem dX5_block_202 : decode cX5_block 202 = .ok (.getfield 28, 3) := by decide +kernel
theorem dX5_block_205 : decode cX5_block 205 = .ok (.bipush 8, 2) := by decide +kernel
theorem dX5_block_207 : decode cX5_block 207 = .ok (.iaload, 1) := by decide +kernel
theorem dX5_block_208 : decode cX5_block 208 = .ok (.istore_n 3, 1) := by decide +kernel
theorem dX5_block_209 : decode cX5_block 209 = .ok (.aload_n 0, 1) := by decide +kernel
theorem dX5_block_210 : decode cX5_block 210 = .ok (.getfield 28, 3) := by decide +kernel
theorem dX5_block_213 : decode cX5_block 213 = .ok (.bipush 12, 2) := by decide +kernel
theorem dX5_block_215 : decode cX5_block 215 = .ok (.iaload, 1) := by decide +kernel
theorem dX5_block_216 : decode cX5_block 216 = .ok (.istore 4, 2) := by decide +kernel
theorem dX5_block_218 : decode cX5_block 218 = .ok (.iload 4, 2) := by decide +kernel
theorem dX5_block_220 : decode cX5_block 220 = .ok (.aload_n 0, 1) := by decide +kernel
theorem dX5_block_221 : decode cX5_block 221 = .ok (.getfield 28, 3) := by decide +kernel
theorem dX5_block_224 : decode cX5_block 224 = .ok (.bipush 13, 2) := by decide +kernel
theorem dX5_block_226 : decode cX5_block 226 = .ok (.iaload, 1) := by decide +kernel
theorem dX5_block_227 : decode cX5_block 227 = .ok (.iand, 1) := by decide +kernel
theorem dX5_block_228 : decode cX5_block 228 = .ok (.iload 4, 2) := by decide +kernel
theorem dX5_block_230 : decode cX5_block 230 = .ok (.iconst (-1), 1) := by decide +kernel
theorem dX5_block_231 : decode cX5_block 231 = .ok (.ixor, 1) := by decide +kernel
theorem dX5_block_232 : decode cX5_block 232 = .ok (.aload_n 0, 1) := by decide +kernel
theorem dX5_block_233 : decode cX5_block 233 = .ok (.getfield 28, 3) := by decide +kernel
theorem dX5_block_236 : decode cX5_block 236 = .ok (.bipush 14, 2) := by decide +kernel
theorem dX5_block_238 : decode cX5_block 238 = .ok (.iaload, 1) := by decide +kernel
theorem dX5_block_239 : decode cX5_block 239 = .ok (.iand, 1) := by decide +kernel
theorem dX5_block_240 : decode cX5_block 240 = .ok (.ixor, 1) := by decide +kernel
theorem dX5_block_241 : decode cX5_block 241 = .ok (.istore 5, 2) := by decide +kernel
theorem dX5_block_243 : decode cX5_block 243 = .ok (.iload_n 3, 1) := by decide +kernel
theorem dX5_block_244 : decode cX5_block 244 = .ok (.aload_n 0, 1) := by decide +kernel
theorem dX5_block_245 : decode cX5_block 245 = .ok (.getfield 28, 3) := by decide +kernel
theorem dX5_block_248 : decode cX5_block 248 = .ok (.bipush 9, 2) := by decide +kernel
theorem dX5_block_250 : decode cX5_block 250 = .ok (.iaload, 1) := by decide +kernel
theorem dX5_block_251 : decode cX5_block 251 = .ok (.iand, 1) := by decide +kernel
theorem dX5_block_252 : decode cX5_block 252 = .ok (.iload_n 3, 1) := by decide +kernel
theorem dX5_block_253 : decode cX5_block 253 = .ok (.aload_n 0, 1) := by decide +kernel
theorem dX5_block_254 : decode cX5_block 254 = .ok (.getfield 28, 3) := by decide +kernel
theorem dX5_block_257 : decode cX5_block 257 = .ok (.bipush 10, 2) := by decide +kernel
theorem dX5_block_259 : decode cX5_block 259 = .ok (.iaload, 1) := by decide +kernel
theorem dX5_block_260 : decode cX5_block 260 = .ok (.iand, 1) := by decide +kernel
theorem dX5_block_261 : decode cX5_block 261 = .ok (.ixor, 1) := by decide +kernel
theorem dX5_block_262 : decode cX5_block 262 = .ok (.aload_n 0, 1) := by decide +kernel
theorem dX5_block_263 : decode cX5_block 263 = .ok (.getfield 28, 3) := by decide +kernel
theorem dX5_block_266 : decode cX5_block 266 = .ok (.bipush 9, 2) := by decide +kernel
theorem dX5_block_268 : decode cX5_block 268 = .ok (.iaload, 1) := by decide +kernel
theorem dX5_block_269 : decode cX5_block 269 = .ok (.aload_n 0, 1) := by decide +kernel
theorem dX5_block_270 : decode cX5_block 270 = .ok (.getfield 28, 3) := by decide +kernel
theorem dX5_block_273 : decode cX5_block 273 = .ok (.bipush 10, 2) := by decide +kernel
theorem dX5_block_275 : decode cX5_block 275 = .ok (.iaload, 1) := by decide +kernel
theorem dX5_block_276 : decode cX5_block 276 = .ok (.iand, 1) := by decide +kernel
theorem dX5_block_277 : decode cX5_block 277 = .ok (.ixor, 1) := by decide +kernel
theorem dX5_block_278 : decode cX5_block 278 = .ok (.istore 6, 2) := by decide +kernel
theorem dX5_block_280 : decode cX5_block 280 = .ok (.aload_n 0, 1) := by decide +kernel
theorem dX5_block_281 : decode cX5_block 281 = .ok (.getfield 28, 3) := by decide +kernel
theorem dX5_block_284 : decode cX5_block 284 = .ok (.bipush 15, 2) := by decide +kernel
theorem dX5_block_286 : decode cX5_block 286 = .ok (.iaload, 1) := by decide +kernel
theorem dX5_block_287 : decode cX5_block 287 = .ok (.iload 4, 2) := by decide +kernel
theorem dX5_block_289 : decode cX5_block 289 = .ok (.bipush 6, 2) := by decide +kernel
theorem dX5_block_291 : decode cX5_block 291 = .ok (.invokestatic 157, 3) := by decide +kernel
theorem dX5_block_294 : decode cX5_block 294 = .ok (.iload 4, 2) := by decide +kernel
theorem dX5_block_296 : decode cX5_block 296 = .ok (.bipush 11, 2) := by decide +kernel
theorem dX5_block_298 : decode cX5_block 298 = .ok (.invokestatic 157, 3) := by decide +kernel
theorem dX5_block_301 : decode cX5_block 301 = .ok (.ixor, 1) := by decide +kernel
theorem dX5_block_302 : decode cX5_block 302 = .ok (.iload 4, 2) := by decide +kernel
theorem dX5_block_304 : decode cX5_block 304 = .ok (.bipush 25, 2) := by decide +kernel
theorem dX5_block_306 : decode cX5_block 306 = .ok (.invokestatic 157, 3) := by decide +kernel
theorem dX5_block_309 : decode cX5_block 309 = .ok (.ixor, 1) := by decide +kernel
theorem dX5_block_310 : decode cX5_block 310 = .ok (.iadd, 1) := by decide +kernel
theorem dX5_block_311 : decode cX5_block 311 = .ok (.iload 5, 2) := by decide +kernel
theorem dX5_block_313 : decode cX5_block 313 = .ok (.iadd, 1) := by decide +kernel
theorem dX5_block_314 : decode cX5_block 314 = .ok (.iload_n 2, 1) := by decide +kernel
theorem dX5_block_315 : decode cX5_block 315 = .ok (.invokestatic 161, 3) := by decide +kernel
theorem dX5_block_318 : decode cX5_block 318 = .ok (.iadd, 1) := by decide +kernel
theorem dX5_block_319 : decode cX5_block 319 = .ok (.aload_n 0, 1) := by decide +kernel
theorem dX5_block_320 : decode cX5_block 320 = .ok (.getfield 25, 3) := by decide +kernel
theorem dX5_block_323 : decode cX5_block 323 = .ok (.iload_n 2, 1) := by decide +kernel
theorem dX5_block_324 : decode cX5_block 324 = .ok (.iaload, 1) := by decide +kernel
theorem dX5_block_325 : decode cX5_block 325 = .ok (.iadd, 1) := by decide +kernel
theorem dX5_block_326 : decode cX5_block 326 = .ok (.istore 7, 2) := by decide +kernel
theorem dX5_block_328 : decode cX5_block 328 = .ok (.iload_n 3, 1) := by decide +kernel
theorem dX5_block_329 : decode cX5_block 329 = .ok (.iconst 2, 1) := by decide +kernel
theorem dX5_block_330 : decode cX5_block 330 = .ok (.invokestatic 157, 3) := by decide +kernel
theorem dX5_block_333 : decode cX5_block 333 = .ok (.iload_n 3, 1) := by decide +kernel
theorem dX5_block_334 : decode cX5_block 334 = .ok (.bipush 13, 2) := by decide +kernel
theorem dX5_block_336 : decode cX5_block 336 = .ok (.invokestatic 157, 3) := by decide +kernel
theorem dX5_block_339 : decode cX5_block 339 = .ok (.ixor, 1) := by decide +kernel
theorem dX5_block_340 : decode cX5_block 340 = .ok (.iload_n 3, 1) := by decide +kernel
theorem dX5_block_341 : decode cX5_block 341 = .ok (.bipush 22, 2) := by decide +kernel
theorem dX5_block_343 : decode cX5_block 343 = .ok (.invokestatic 157, 3) := by decide +kernel
theorem dX5_block_346 : decode cX5_block 346 = .ok (.ixor, 1) := by decide +kernel
theorem dX5_block_347 : decode cX5_block 347 = .ok (.iload 6, 2) := by decide +kernel
theorem dX5_block_349 : decode cX5_block 349 = .ok (.iadd, 1) := by decide +kernel
theorem dX5_block_350 : decode cX5_block 350 = .ok (.istore 8, 2) := by decide +kernel
theorem dX5_block_352 : decode cX5_block 352 = .ok (.bipush 15, 2) := by decide +kernel
theorem dX5_block_354 : decode cX5_block 354 = .ok (.istore 9, 2) := by decide +kernel
theorem dX5_block_356 : decode cX5_block 356 = .ok (.iload 9, 2) := by decide +kernel
theorem dX5_block_358 : decode cX5_block 358 = .ok (.bipush 8, 2) := by decide +kernel
theorem dX5_block_360 : decode cX5_block 360 = .ok (.if_icmp .le 25, 3) := by decide +kernel
theorem dX5_block_363 : decode cX5_block 363 = .ok (.aload_n 0, 1) := by decide +kernel
theorem dX5_block_364 : decode cX5_block 364 = .ok (.getfield 28, 3) := by decide +kernel
theorem dX5_block_367 : decode cX5_block 367 = .ok (.iload 9, 2) := by decide +kernel
theorem dX5_block_369 : decode cX5_block 369 = .ok (.aload_n 0, 1) := by decide +kernel
theorem dX5_block_370 : decode cX5_block 370 = .ok (.getfield 28, 3) := by decide +kernel
theorem dX5_block_373 : decode cX5_block 373 = .ok (.iload 9, 2) := by decide +kernel
theorem dX5_block_375 : decode cX5_block 375 = .ok (.iconst 1, 1) := by decide +kernel
theorem dX5_block_376 : decode cX5_block 376 = .ok (.isub, 1) := by decide +kernel
theorem dX5_block_377 : decode cX5_block 377 = .ok (.iaload, 1) := by decide +kernel
theorem dX5_block_378 : decode cX5_block 378 = .ok (.iastore, 1) := by decide +kernel
theorem dX5_block_379 : decode cX5_block 379 = .ok (.iinc 9 (-1), 3) := by decide +kernel
theorem dX5_block_382 : decode cX5_block 382 = .ok (.goto (-26), 3) := by decide +kernel
theorem dX5_block_385 : decode cX5_block 385 = .ok (.aload_n 0, 1) := by decide +kernel
theorem dX5_block_386 : decode cX5_block 386 = .ok (.getfield 28, 3) := by decide +kernel
theorem dX5_block_389 : decode cX5_block 389 = .ok (.bipush 12, 2) := by decide +kernel
theorem dX5_block_391 : decode cX5_block 391 = .ok (.aload_n 0, 1) := by decide +kernel
theorem dX5_block_392 : decode cX5_block 392 = .ok (.getfield 28, 3) := by decide +kernel
theorem dX5_block_395 : decode cX5_block 395 = .ok (.bipush 12, 2) := by decide +kernel
theorem dX5_block_397 : decode cX5_block 397 = .ok (.iaload, 1) := by decide +kernel
theorem dX5_block_398 : decode cX5_block 398 = .ok (.iload 7, 2) := by decide +kernel
theorem dX5_block_400 : decode cX5_block 400 = .ok (.iadd, 1) := by decide +kernel
theorem dX5_block_401 : decode cX5_block 401 = .ok (.iastore, 1) := by decide +kernel
theorem dX5_block_402 : decode cX5_block 402 = .ok (.aload_n 0, 1) := by decide +kernel
theorem dX5_block_403 : decode cX5_block 403 = .ok (.getfield 28, 3) := by decide +kernel
theorem dX5_block_406 : decode cX5_block 406 = .ok (.bipush 8, 2) := by decide +kernel
theorem dX5_block_408 : decode cX5_block 408 = .ok (.iload 7, 2) := by decide +kernel
theorem dX5_block_410 : decode cX5_block 410 = .ok (.iload 8, 2) := by decide +kernel
theorem dX5_block_412 : decode cX5_block 412 = .ok (.iadd, 1) := by decide +kernel
theorem dX5_block_413 : decode cX5_block 413 = .ok (.iastore, 1) := by decide +kernel
theorem dX5_block_414 : decode cX5_block 414 = .ok (.iinc 2 1, 3) := by decide +kernel
theorem dX5_block_417 : decode cX5_block 417 = .ok (.goto (-222), 3) := by decide +kernel
theorem dX5_block_420 : decode cX5_block 420 = .ok (.iconst 0, 1) := by decide +kernel
theorem dX5_block_421 : decode cX5_block 421 = .ok (.istore_n 2, 1) := by decide +kernel
theorem dX5_block_422 : decode cX5_block 422 = .ok (.iload_n 2, 1) := by decide +kernel
theorem dX5_block_423 : decode cX5_block 423 = .ok (.bipush 8, 2) := by decide +kernel
theorem dX5_block_425 : decode cX5_block 425 = .ok (.if_icmp .ge 31, 3) := by decide +kernel
theorem dX5_block_428 : decode cX5_block 428 = .ok (.aload_n 0, 1) := by decide +kernel
theorem dX5_block_429 : decode cX5_block 429 = .ok (.getfield 28, 3) := by decide +kernel
theorem dX5_block_432 : decode cX5_block 432 = .ok (.iload_n 2, 1) := by decide +kernel
theorem dX5_block_433 : decode cX5_block 433 = .ok (.aload_n 0, 1) := by decide +kernel
theorem dX5_block_434 : decode cX5_block 434 = .ok (.getfield 28, 3) := by decide +kernel
theorem dX5_block_437 : decode cX5_block 437 = .ok (.iload_n 2, 1) := by decide +kernel
theorem dX5_block_438 : decode cX5_block 438 = .ok (.iaload, 1) := by decide +kernel
theorem dX5_block_439 : decode cX5_block 439 = .ok (.aload_n 0, 1) := by decide +kernel
theorem dX5_block_440 : decode cX5_block 440 = .ok (.getfield 28, 3) := by decide +kernel
theorem dX5_block_443 : decode cX5_block 443 = .ok (.bipush 8, 2) := by decide +kernel
theorem dX5_block_445 : decode cX5_block 445 = .ok (.iload_n 2, 1) := by decide +kernel
theorem dX5_block_446 : decode cX5_block 446 = .ok (.iadd, 1) := by decide +kernel
theorem dX5_block_447 : decode cX5_block 447 = .ok (.iaload, 1) := by decide +kernel
theorem dX5_block_448 : decode cX5_block 448 = .ok (.iadd, 1) := by decide +kernel
theorem dX5_block_449 : decode cX5_block 449 = .ok (.iastore, 1) := by decide +kernel
theorem dX5_block_450 : decode cX5_block 450 = .ok (.iinc 2 1, 3) := by decide +kernel
theorem dX5_block_453 : decode cX5_block 453 = .ok (.goto (-31), 3) := by decide +kernel
theorem dX5_block_456 : decode cX5_block 456 = .ok (.return_, 1) := by decide +kernel
theorem dX5_hash_0 : decode cX5_hash 0 = .ok (.bipush 8, 2) := by decide +kernel
theorem dX5_hash_2 : decode cX5_hash 2 = .ok (.aload_n 0, 1) := by decide +kernel
theorem dX5_hash_3 : decode cX5_hash 3 = .ok (.getfield 150, 3) := by decide +kernel
theorem dX5_hash_6 : decode cX5_hash 6 = .ok (.imul, 1) := by decide +kernel
theorem dX5_hash_7 : decode cX5_hash 7 = .ok (.istore_n 1, 1) := by decide +kernel
theorem dX5_hash_8 : decode cX5_hash 8 = .ok (.iconst 0, 1) := by decide +kernel
theorem dX5_hash_9 : decode cX5_hash 9 = .ok (.istore_n 2, 1) := by decide +kernel
theorem dX5_hash_10 : decode cX5_hash 10 = .ok (.iload_n 2, 1) := by decide +kernel
theorem dX5_hash_11 : decode cX5_hash 11 = .ok (.bipush 8, 2) := by decide +kernel
theorem dX5_hash_13 : decode cX5_hash 13 = .ok (.if_icmp .ge 19, 3) := by decide +kernel
theorem dX5_hash_16 : decode cX5_hash 16 = .ok (.aload_n 0, 1) := by decide +kernel
theorem dX5_hash_17 : decode cX5_hash 17 = .ok (.getfield 28, 3) := by decide +kernel
theorem dX5_hash_20 : decode cX5_hash 20 = .ok (.iload_n 2, 1) := by decide +kernel
theorem dX5_hash_21 : decode cX5_hash 21 = .ok (.iload_n 2, 1) := by decide +kernel
theorem dX5_hash_22 : decode cX5_hash 22 = .ok (.invokestatic 165, 3) := by decide +kernel
theorem dX5_hash_25 : decode cX5_hash 25 = .ok (.iastore, 1) := by decide +kernel
theorem dX5_hash_26 : decode cX5_hash 26 = .ok (.iinc 2 1, 3) := by decide +kernel
theorem dX5_hash_29 : decode cX5_hash 29 = .ok (.goto (-19), 3) := by decide +kernel
theorem dX5_hash_32 : decode cX5_hash 32 = .ok (.aload_n 0, 1) := by decide +kernel
theorem dX5_hash_33 : decode cX5_hash 33 = .ok (.sipush 128, 3) := by decide +kernel
theorem dX5_hash_36 : decode cX5_hash 36 = .ok (.invokevirtual 153, 3) := by decide +kernel
theorem dX5_hash_39 : decode cX5_hash 39 = .ok (.aload_n 0, 1) := by decide +kernel
theorem dX5_hash_40 : decode cX5_hash 40 = .ok (.getfield 150, 3) := by decide +kernel
theorem dX5_hash_43 : decode cX5_hash 43 = .ok (.bipush 64, 2) := by decide +kernel
theorem dX5_hash_45 : decode cX5_hash 45 = .ok (.irem, 1) := by decide +kernel
theorem dX5_hash_46 : decode cX5_hash 46 = .ok (.bipush 56, 2) := by decide +kernel
theorem dX5_hash_48 : decode cX5_hash 48 = .ok (.if_icmp .eq 11, 3) := by decide +kernel
theorem dX5_hash_51 : decode cX5_hash 51 = .ok (.aload_n 0, 1) := by decide +kernel
theorem dX5_hash_52 : decode cX5_hash 52 = .ok (.iconst 0, 1) := by decide +kernel
theorem dX5_hash_53 : decode cX5_hash 53 = .ok (.invokevirtual 153, 3) := by decide +kernel
theorem dX5_hash_56 : decode cX5_hash 56 = .ok (.goto (-17), 3) := by decide +kernel
theorem dX5_hash_59 : decode cX5_hash 59 = .ok (.aload_n 0, 1) := by decide +kernel
theorem dX5_hash_60 : decode cX5_hash 60 = .ok (.iconst 0, 1) := by decide +kernel
theorem dX5_hash_61 : decode cX5_hash 61 = .ok (.invokevirtual 168, 3) := by decide +kernel
theorem dX5_hash_64 : decode cX5_hash 64 = .ok (.aload_n 0, 1) := by decide +kernel
theorem dX5_hash_65 : decode cX5_hash 65 = .ok (.iload_n 1, 1) := by decide +kernel
theorem dX5_hash_66 : decode cX5_hash 66 = .ok (.invokevirtual 168, 3) := by decide +kernel
theorem dX5_hash_69 : decode cX5_hash 69 = .ok (.iconst 0, 1) := by decide +kernel
theorem dX5_hash_70 : decode cX5_hash 70 = .ok (.istore_n 2, 1) := by decide +kernel
theorem dX5_hash_71 : decode cX5_hash 71 = .ok (.iload_n 2, 1) := by decide +kernel
theorem dX5_hash_72 : decode cX5_hash 72 = .ok (.aload_n 0, 1) := by decide +kernel
theorem dX5_hash_73 : decode cX5_hash 73 = .ok (.getfield 150, 3) := by decide +kernel
theorem dX5_hash_76 : decode cX5_hash 76 = .ok (.if_icmp .ge 16, 3) := by decide +kernel
theorem dX5_hash_79 : decode cX5_hash 79 = .ok (.aload_n 0, 1) := by decide +kernel
theorem dX5_hash_80 : decode cX5_hash 80 = .ok (.iload_n 2, 1) := by decide +kernel
theorem dX5_hash_81 : decode cX5_hash 81 = .ok (.invokevirtual 171, 3) := by decide +kernel
theorem dX5_hash_84 : decode cX5_hash 84 = .ok (.iload_n 2, 1) := by decide +kernel
theorem dX5_hash_85 : decode cX5_hash 85 = .ok (.bipush 64, 2) := by decide +kernel
theorem dX5_hash_87 : decode cX5_hash 87 = .ok (.iadd, 1) := by decide +kernel
theorem dX5_hash_88 : decode cX5_hash 88 = .ok (.istore_n 2, 1) := by decide +kernel
theorem dX5_hash_89 : decode cX5_hash 89 = .ok (.goto (-18), 3) := by decide +kernel
theorem dX5_hash_92 : decode cX5_hash 92 = .ok (.iconst 0, 1) := by decide +kernel
theorem dX5_hash_93 : decode cX5_hash 93 = .ok (.istore_n 2, 1) := by decide +kernel
