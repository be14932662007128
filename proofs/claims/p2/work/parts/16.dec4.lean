/-! instructions, by program -/
theorem dX9_decomposes_250 : decode cX9_decomposes 250 = .ok (.iload_n 2, 1) := by decide +kernel
theorem dX9_decomposes_251 : decode cX9_decomposes 251 = .ok (.imul, 1) := by decide +kernel
theorem dX9_decomposes_252 : decode cX9_decomposes 252 = .ok (.iload_n 2, 1) := by decide +kernel
theorem dX9_decomposes_253 : decode cX9_decomposes 253 = .ok (.iadd, 1) := by decide +kernel
theorem dX9_decomposes_254 : decode cX9_decomposes 254 = .ok (.iaload, 1) := by decide +kernel
theorem dX9_decomposes_255 : decode cX9_decomposes 255 = .ok (.sipush 32001, 3) := by decide +kernel
theorem dX9_decomposes_258 : decode cX9_decomposes 258 = .ok (.sipush 32003, 3) := by decide +kernel
theorem dX9_decomposes_261 : decode cX9_decomposes 261 = .ok (.invokestatic 238, 3) := by decide +kernel
theorem dX9_decomposes_264 : decode cX9_decomposes 264 = .ok (.istore 4, 2) := by decide +kernel
theorem dX9_decomposes_266 : decode cX9_decomposes 266 = .ok (.iconst 0, 1) := by decide +kernel
theorem dX9_decomposes_267 : decode cX9_decomposes 267 = .ok (.istore 5, 2) := by decide +kernel
theorem dX9_decomposes_269 : decode cX9_decomposes 269 = .ok (.iload 5, 2) := by decide +kernel
theorem dX9_decomposes_271 : decode cX9_decomposes 271 = .ok (.bipush 22, 2) := by decide +kernel
theorem dX9_decomposes_273 : decode cX9_decomposes 273 = .ok (.if_icmp .ge 43, 3) := by decide +kernel
theorem dX9_decomposes_276 : decode cX9_decomposes 276 = .ok (.aload_n 0, 1) := by decide +kernel
theorem dX9_decomposes_277 : decode cX9_decomposes 277 = .ok (.getfield 102, 3) := by decide +kernel
theorem dX9_decomposes_280 : decode cX9_decomposes 280 = .ok (.bipush 22, 2) := by decide +kernel
theorem dX9_decomposes_282 : decode cX9_decomposes 282 = .ok (.iload_n 2, 1) := by decide +kernel
theorem dX9_decomposes_283 : decode cX9_decomposes 283 = .ok (.imul, 1) := by decide +kernel
theorem dX9_decomposes_284 : decode cX9_decomposes 284 = .ok (.iload 5, 2) := by decide +kernel
theorem dX9_decomposes_286 : decode cX9_decomposes 286 = .ok (.iadd, 1) := by decide +kernel
theorem dX9_decomposes_287 : decode cX9_decomposes 287 = .ok (.aload_n 0, 1) := by decide +kernel
theorem dX9_decomposes_288 : decode cX9_decomposes 288 = .ok (.getfield 102, 3) := by decide +kernel
theorem dX9_decomposes_291 : decode cX9_decomposes 291 = .ok (.bipush 22, 2) := by decide +kernel
theorem dX9_decomposes_293 : decode cX9_decomposes 293 = .ok (.iload_n 2, 1) := by decide +kernel
theorem dX9_decomposes_294 : decode cX9_decomposes 294 = .ok (.imul, 1) := by decide +kernel
theorem dX9_decomposes_295 : decode cX9_decomposes 295 = .ok (.iload 5, 2) := by decide +kernel
theorem dX9_decomposes_297 : decode cX9_decomposes 297 = .ok (.iadd, 1) := by decide +kernel
theorem dX9_decomposes_298 : decode cX9_decomposes 298 = .ok (.iaload, 1) := by decide +kernel
theorem dX9_decomposes_299 : decode cX9_decomposes 299 = .ok (.i2l, 1) := by decide +kernel
theorem dX9_decomposes_300 : decode cX9_decomposes 300 = .ok (.iload 4, 2) := by decide +kernel
theorem dX9_decomposes_302 : decode cX9_decomposes 302 = .ok (.i2l, 1) := by decide +kernel
theorem dX9_decomposes_303 : decode cX9_decomposes 303 = .ok (.lmul, 1) := by decide +kernel
theorem dX9_decomposes_304 : decode cX9_decomposes 304 = .ok (.ldc2_w 264, 3) := by decide +kernel
theorem dX9_decomposes_307 : decode cX9_decomposes 307 = .ok (.lrem, 1) := by decide +kernel
theorem dX9_decomposes_308 : decode cX9_decomposes 308 = .ok (.l2i, 1) := by decide +kernel
theorem dX9_decomposes_309 : decode cX9_decomposes 309 = .ok (.iastore, 1) := by decide +kernel
theorem dX9_decomposes_310 : decode cX9_decomposes 310 = .ok (.iinc 5 1, 3) := by decide +kernel
theorem dX9_decomposes_313 : decode cX9_decomposes 313 = .ok (.goto (-44), 3) := by decide +kernel
theorem dX9_decomposes_316 : decode cX9_decomposes 316 = .ok (.iconst 0, 1) := by decide +kernel
theorem dX9_decomposes_317 : decode cX9_decomposes 317 = .ok (.istore 5, 2) := by decide +kernel
theorem dX9_decomposes_319 : decode cX9_decomposes 319 = .ok (.iload 5, 2) := by decide +kernel
theorem dX9_decomposes_321 : decode cX9_decomposes 321 = .ok (.iload_n 1, 1) := by decide +kernel
theorem dX9_decomposes_322 : decode cX9_decomposes 322 = .ok (.if_icmp .ge 107, 3) := by decide +kernel
theorem dX9_decomposes_325 : decode cX9_decomposes 325 = .ok (.aload_n 0, 1) := by decide +kernel
theorem dX9_decomposes_326 : decode cX9_decomposes 326 = .ok (.getfield 102, 3) := by decide +kernel
theorem dX9_decomposes_329 : decode cX9_decomposes 329 = .ok (.bipush 22, 2) := by decide +kernel
theorem dX9_decomposes_331 : decode cX9_decomposes 331 = .ok (.iload 5, 2) := by decide +kernel
theorem dX9_decomposes_333 : decode cX9_decomposes 333 = .ok (.imul, 1) := by decide +kernel
theorem dX9_decomposes_334 : decode cX9_decomposes 334 = .ok (.iload_n 2, 1) := by decide +kernel
theorem dX9_decomposes_335 : decode cX9_decomposes 335 = .ok (.iadd, 1) := by decide +kernel
theorem dX9_decomposes_336 : decode cX9_decomposes 336 = .ok (.iaload, 1) := by decide +kernel
theorem dX9_decomposes_337 : decode cX9_decomposes 337 = .ok (.istore 6, 2) := by decide +kernel
theorem dX9_decomposes_339 : decode cX9_decomposes 339 = .ok (.iload 5, 2) := by decide +kernel
theorem dX9_decomposes_341 : decode cX9_decomposes 341 = .ok (.iload_n 2, 1) := by decide +kernel
theorem dX9_decomposes_342 : decode cX9_decomposes 342 = .ok (.if_icmp .eq 81, 3) := by decide +kernel
theorem dX9_decomposes_345 : decode cX9_decomposes 345 = .ok (.iload 6, 2) := by decide +kernel
theorem dX9_decomposes_347 : decode cX9_decomposes 347 = .ok (.ifCond .ne 6, 3) := by decide +kernel
theorem dX9_decomposes_350 : decode cX9_decomposes 350 = .ok (.goto 73, 3) := by decide +kernel
theorem dX9_decomposes_353 : decode cX9_decomposes 353 = .ok (.iconst 0, 1) := by decide +kernel
theorem dX9_decomposes_354 : decode cX9_decomposes 354 = .ok (.istore 7, 2) := by decide +kernel
theorem dX9_decomposes_356 : decode cX9_decomposes 356 = .ok (.iload 7, 2) := by decide +kernel
theorem dX9_decomposes_358 : decode cX9_decomposes 358 = .ok (.bipush 22, 2) := by decide +kernel
theorem dX9_decomposes_360 : decode cX9_decomposes 360 = .ok (.if_icmp .ge 63, 3) := by decide +kernel
theorem dX9_decomposes_363 : decode cX9_decomposes 363 = .ok (.aload_n 0, 1) := by decide +kernel
theorem dX9_decomposes_364 : decode cX9_decomposes 364 = .ok (.getfield 102, 3) := by decide +kernel
theorem dX9_decomposes_367 : decode cX9_decomposes 367 = .ok (.bipush 22, 2) := by decide +kernel
theorem dX9_decomposes_369 : decode cX9_decomposes 369 = .ok (.iload 5, 2) := by decide +kernel
theorem dX9_decomposes_371 : decode cX9_decomposes 371 = .ok (.imul, 1) := by decide +kernel
theorem dX9_decomposes_372 : decode cX9_decomposes 372 = .ok (.iload 7, 2) := by decide +kernel
theorem dX9_decomposes_374 : decode cX9_decomposes 374 = .ok (.iadd, 1) := by decide +kernel
theorem dX9_decomposes_375 : decode cX9_decomposes 375 = .ok (.aload_n 0, 1) := by decide +kernel
theorem dX9_decomposes_376 : decode cX9_decomposes 376 = .ok (.getfield 102, 3) := by decide +kernel
theorem dX9_decomposes_379 : decode cX9_decomposes 379 = .ok (.bipush 22, 2) := by decide +kernel
theorem dX9_decomposes_381 : decode cX9_decomposes 381 = .ok (.iload 5, 2) := by decide +kernel
theorem dX9_decomposes_383 : decode cX9_decomposes 383 = .ok (.imul, 1) := by decide +kernel
theorem dX9_decomposes_384 : decode cX9_decomposes 384 = .ok (.iload 7, 2) := by decide +kernel
theorem dX9_decomposes_386 : decode cX9_decomposes 386 = .ok (.iadd, 1) := by decide +kernel
theorem dX9_decomposes_387 : decode cX9_decomposes 387 = .ok (.iaload, 1) := by decide +kernel
theorem dX9_decomposes_388 : decode cX9_decomposes 388 = .ok (.i2l, 1) := by decide +kernel
theorem dX9_decomposes_389 : decode cX9_decomposes 389 = .ok (.sipush 32003, 3) := by decide +kernel
theorem dX9_decomposes_392 : decode cX9_decomposes 392 = .ok (.iload 6, 2) := by decide +kernel
theorem dX9_decomposes_394 : decode cX9_decomposes 394 = .ok (.isub, 1) := by decide +kernel
theorem dX9_decomposes_395 : decode cX9_decomposes 395 = .ok (.i2l, 1) := by decide +kernel
theorem dX9_decomposes_396 : decode cX9_decomposes 396 = .ok (.aload_n 0, 1) := by decide +kernel
theorem dX9_decomposes_397 : decode cX9_decomposes 397 = .ok (.getfield 102, 3) := by decide +kernel
theorem dX9_decomposes_400 : decode cX9_decomposes 400 = .ok (.bipush 22, 2) := by decide +kernel
theorem dX9_decomposes_402 : decode cX9_decomposes 402 = .ok (.iload_n 2, 1) := by decide +kernel
theorem dX9_decomposes_403 : decode cX9_decomposes 403 = .ok (.imul, 1) := by decide +kernel
theorem dX9_decomposes_404 : decode cX9_decomposes 404 = .ok (.iload 7, 2) := by decide +kernel
theorem dX9_decomposes_406 : decode cX9_decomposes 406 = .ok (.iadd, 1) := by decide +kernel
theorem dX9_decomposes_407 : decode cX9_decomposes 407 = .ok (.iaload, 1) := by decide +kernel
theorem dX9_decomposes_408 : decode cX9_decomposes 408 = .ok (.i2l, 1) := by decide +kernel
theorem dX9_decomposes_409 : decode cX9_decomposes 409 = .ok (.lmul, 1) := by decide +kernel
theorem dX9_decomposes_410 : decode cX9_decomposes 410 = .ok (.ladd, 1) := by decide +kernel
theorem dX9_decomposes_411 : decode cX9_decomposes 411 = .ok (.ldc2_w 264, 3) := by decide +kernel
theorem dX9_decomposes_414 : decode cX9_decomposes 414 = .ok (.lrem, 1) := by decide +kernel
theorem dX9_decomposes_415 : decode cX9_decomposes 415 = .ok (.l2i, 1) := by decide +kernel
theorem dX9_decomposes_416 : decode cX9_decomposes 416 = .ok (.iastore, 1) := by decide +kernel
theorem dX9_decomposes_417 : decode cX9_decomposes 417 = .ok (.iinc 7 1, 3) := by decide +kernel
theorem dX9_decomposes_420 : decode cX9_decomposes 420 = .ok (.goto (-64), 3) := by decide +kernel
theorem dX9_decomposes_423 : decode cX9_decomposes 423 = .ok (.iinc 5 1, 3) := by decide +kernel
theorem dX9_decomposes_426 : decode cX9_decomposes 426 = .ok (.goto (-107), 3) := by decide +kernel
theorem dX9_decomposes_429 : decode cX9_decomposes 429 = .ok (.iinc 2 1, 3) := by decide +kernel
theorem dX9_decomposes_432 : decode cX9_decomposes 432 = .ok (.goto (-296), 3) := by decide +kernel
theorem dX9_decomposes_435 : decode cX9_decomposes 435 = .ok (.iconst 0, 1) := by decide +kernel
theorem dX9_decomposes_436 : decode cX9_decomposes 436 = .ok (.istore_n 2, 1) := by decide +kernel
theorem dX9_decomposes_437 : decode cX9_decomposes 437 = .ok (.iload_n 2, 1) := by decide +kernel
theorem dX9_decomposes_438 : decode cX9_decomposes 438 = .ok (.aload_n 0, 1) := by decide +kernel
theorem dX9_decomposes_439 : decode cX9_decomposes 439 = .ok (.getfield 153, 3) := by decide +kernel
theorem dX9_decomposes_442 : decode cX9_decomposes 442 = .ok (.if_icmp .ge 71, 3) := by decide +kernel
theorem dX9_decomposes_445 : decode cX9_decomposes 445 = .ok (.iconst 0, 1) := by decide +kernel
theorem dX9_decomposes_446 : decode cX9_decomposes 446 = .ok (.istore_n 3, 1) := by decide +kernel
theorem dX9_decomposes_447 : decode cX9_decomposes 447 = .ok (.iload_n 3, 1) := by decide +kernel
theorem dX9_decomposes_448 : decode cX9_decomposes 448 = .ok (.aload_n 0, 1) := by decide +kernel
theorem dX9_decomposes_449 : decode cX9_decomposes 449 = .ok (.getfield 172, 3) := by decide +kernel
theorem dX9_decomposes_452 : decode cX9_decomposes 452 = .ok (.if_icmp .ge 55, 3) := by decide +kernel
theorem dX9_decomposes_455 : decode cX9_decomposes 455 = .ok (.aload_n 0, 1) := by decide +kernel
theorem dX9_decomposes_456 : decode cX9_decomposes 456 = .ok (.getfield 102, 3) := by decide +kernel
theorem dX9_decomposes_459 : decode cX9_decomposes 459 = .ok (.bipush 22, 2) := by decide +kernel
theorem dX9_decomposes_461 : decode cX9_decomposes 461 = .ok (.iload_n 3, 1) := by decide +kernel
theorem dX9_decomposes_462 : decode cX9_decomposes 462 = .ok (.imul, 1) := by decide +kernel
theorem dX9_decomposes_463 : decode cX9_decomposes 463 = .ok (.bipush 11, 2) := by decide +kernel
theorem dX9_decomposes_465 : decode cX9_decomposes 465 = .ok (.iadd, 1) := by decide +kernel
theorem dX9_decomposes_466 : decode cX9_decomposes 466 = .ok (.iload_n 2, 1) := by decide +kernel
theorem dX9_decomposes_467 : decode cX9_decomposes 467 = .ok (.iadd, 1) := by decide +kernel
theorem dX9_decomposes_468 : decode cX9_decomposes 468 = .ok (.iaload, 1) := by decide +kernel
theorem dX9_decomposes_469 : decode cX9_decomposes 469 = .ok (.istore 4, 2) := by decide +kernel
theorem dX9_decomposes_471 : decode cX9_decomposes 471 = .ok (.aload_n 0, 1) := by decide +kernel
theorem dX9_decomposes_472 : decode cX9_decomposes 472 = .ok (.getfield 99, 3) := by decide +kernel
theorem dX9_decomposes_475 : decode cX9_decomposes 475 = .ok (.bipush 11, 2) := by decide +kernel
theorem dX9_decomposes_477 : decode cX9_decomposes 477 = .ok (.iload_n 2, 1) := by decide +kernel
theorem dX9_decomposes_478 : decode cX9_decomposes 478 = .ok (.imul, 1) := by decide +kernel
theorem dX9_decomposes_479 : decode cX9_decomposes 479 = .ok (.iload_n 3, 1) := by decide +kernel
theorem dX9_decomposes_480 : decode cX9_decomposes 480 = .ok (.iadd, 1) := by decide +kernel
theorem dX9_decomposes_481 : decode cX9_decomposes 481 = .ok (.iload 4, 2) := by decide +kernel
theorem dX9_decomposes_483 : decode cX9_decomposes 483 = .ok (.sipush 16001, 3) := by decide +kernel
theorem dX9_decomposes_486 : decode cX9_decomposes 486 = .ok (.if_icmp .le 12, 3) := by decide +kernel
theorem dX9_decomposes_489 : decode cX9_decomposes 489 = .ok (.iload 4, 2) := by decide +kernel
theorem dX9_decomposes_491 : decode cX9_decomposes 491 = .ok (.sipush 32003, 3) := by decide +kernel
theorem dX9_decomposes_494 : decode cX9_decomposes 494 = .ok (.isub, 1) := by decide +kernel
theorem dX9_decomposes_495 : decode cX9_decomposes 495 = .ok (.goto 5, 3) := by decide +kernel
theorem dX9_decomposes_498 : decode cX9_decomposes 498 = .ok (.iload 4, 2) := by decide +kernel
theorem dX9_decomposes_500 : decode cX9_decomposes 500 = .ok (.iastore, 1) := by decide +kernel
theorem dX9_decomposes_501 : decode cX9_decomposes 501 = .ok (.iinc 3 1, 3) := by decide +kernel
theorem dX9_decomposes_504 : decode cX9_decomposes 504 = .ok (.goto (-57), 3) := by decide +kernel
theorem dX9_decomposes_507 : decode cX9_decomposes 507 = .ok (.iinc 2 1, 3) := by decide +kernel
theorem dX9_decomposes_510 : decode cX9_decomposes 510 = .ok (.goto (-73), 3) := by decide +kernel
theorem dX9_decomposes_513 : decode cX9_decomposes 513 = .ok (.return_, 1) := by decide +kernel
theorem dX9_lays_0 : decode cX9_lays 0 = .ok (.aload_n 0, 1) := by decide +kernel
theorem dX9_lays_1 : decode cX9_lays 1 = .ok (.iload_n 1, 1) := by decide +kernel
theorem dX9_lays_2 : decode cX9_lays 2 = .ok (.putfield 169, 3) := by decide +kernel
theorem dX9_lays_5 : decode cX9_lays 5 = .ok (.aload_n 0, 1) := by decide +kernel
theorem dX9_lays_6 : decode cX9_lays 6 = .ok (.iload_n 2, 1) := by decide +kernel
theorem dX9_lays_7 : decode cX9_lays 7 = .ok (.putfield 184, 3) := by decide +kernel
theorem dX9_lays_10 : decode cX9_lays 10 = .ok (.aload_n 0, 1) := by decide +kernel
theorem dX9_lays_11 : decode cX9_lays 11 = .ok (.iconst 0, 1) := by decide +kernel
theorem dX9_lays_12 : decode cX9_lays 12 = .ok (.putfield 153, 3) := by decide +kernel
theorem dX9_lays_15 : decode cX9_lays 15 = .ok (.aload_n 0, 1) := by decide +kernel
theorem dX9_lays_16 : decode cX9_lays 16 = .ok (.iconst 0, 1) := by decide +kernel
theorem dX9_lays_17 : decode cX9_lays 17 = .ok (.aload_n 0, 1) := by decide +kernel
theorem dX9_lays_18 : decode cX9_lays 18 = .ok (.getfield 169, 3) := by decide +kernel
theorem dX9_lays_21 : decode cX9_lays 21 = .ok (.aload_n 0, 1) := by decide +kernel
theorem dX9_lays_22 : decode cX9_lays 22 = .ok (.getfield 169, 3) := by decide +kernel
theorem dX9_lays_25 : decode cX9_lays 25 = .ok (.invokevirtual 162, 3) := by decide +kernel
theorem dX9_lays_28 : decode cX9_lays 28 = .ok (.aload_n 0, 1) := by decide +kernel
theorem dX9_lays_29 : decode cX9_lays 29 = .ok (.invokevirtual 266, 3) := by decide +kernel
theorem dX9_lays_32 : decode cX9_lays 32 = .ok (.aload_n 0, 1) := by decide +kernel
theorem dX9_lays_33 : decode cX9_lays 33 = .ok (.invokevirtual 269, 3) := by decide +kernel
theorem dX9_lays_36 : decode cX9_lays 36 = .ok (.aload_n 0, 1) := by decide +kernel
theorem dX9_lays_37 : decode cX9_lays 37 = .ok (.iconst 0, 1) := by decide +kernel
theorem dX9_lays_38 : decode cX9_lays 38 = .ok (.putfield 208, 3) := by decide +kernel
theorem dX9_lays_41 : decode cX9_lays 41 = .ok (.iconst 0, 1) := by decide +kernel
theorem dX9_lays_42 : decode cX9_lays 42 = .ok (.istore_n 3, 1) := by decide +kernel
theorem dX9_lays_43 : decode cX9_lays 43 = .ok (.iload_n 3, 1) := by decide +kernel
theorem dX9_lays_44 : decode cX9_lays 44 = .ok (.sipush 242, 3) := by decide +kernel
theorem dX9_lays_47 : decode cX9_lays 47 = .ok (.if_icmp .ge 16, 3) := by decide +kernel
theorem dX9_lays_50 : decode cX9_lays 50 = .ok (.aload_n 0, 1) := by decide +kernel
theorem dX9_lays_51 : decode cX9_lays 51 = .ok (.getfield 102, 3) := by decide +kernel
theorem dX9_lays_54 : decode cX9_lays 54 = .ok (.iload_n 3, 1) := by decide +kernel
theorem dX9_lays_55 : decode cX9_lays 55 = .ok (.iconst 0, 1) := by decide +kernel
theorem dX9_lays_56 : decode cX9_lays 56 = .ok (.iastore, 1) := by decide +kernel
theorem dX9_lays_57 : decode cX9_lays 57 = .ok (.iinc 3 1, 3) := by decide +kernel
theorem dX9_lays_60 : decode cX9_lays 60 = .ok (.goto (-17), 3) := by decide +kernel
theorem dX9_lays_63 : decode cX9_lays 63 = .ok (.iconst 0, 1) := by decide +kernel
theorem dX9_lays_64 : decode cX9_lays 64 = .ok (.istore_n 3, 1) := by decide +kernel
theorem dX9_lays_65 : decode cX9_lays 65 = .ok (.iload_n 3, 1) := by decide +kernel
theorem dX9_lays_66 : decode cX9_lays 66 = .ok (.aload_n 0, 1) := by decide +kernel
theorem dX9_lays_67 : decode cX9_lays 67 = .ok (.getfield 153, 3) := by decide +kernel
theorem dX9_lays_70 : decode cX9_lays 70 = .ok (.if_icmp .ge 149, 3) := by decide +kernel
theorem dX9_lays_73 : decode cX9_lays 73 = .ok (.iconst 0, 1) := by decide +kernel
theorem dX9_lays_74 : decode cX9_lays 74 = .ok (.istore 4, 2) := by decide +kernel
theorem dX9_lays_76 : decode cX9_lays 76 = .ok (.iload 4, 2) := by decide +kernel
theorem dX9_lays_78 : decode cX9_lays 78 = .ok (.aload_n 0, 1) := by decide +kernel
theorem dX9_lays_79 : decode cX9_lays 79 = .ok (.getfield 153, 3) := by decide +kernel
theorem dX9_lays_82 : decode cX9_lays 82 = .ok (.if_icmp .ge 33, 3) := by decide +kernel
theorem dX9_lays_85 : decode cX9_lays 85 = .ok (.aload_n 0, 1) := by decide +kernel
theorem dX9_lays_86 : decode cX9_lays 86 = .ok (.getfield 38, 3) := by decide +kernel
theorem dX9_lays_89 : decode cX9_lays 89 = .ok (.bipush 11, 2) := by decide +kernel
theorem dX9_lays_91 : decode cX9_lays 91 = .ok (.iload_n 3, 1) := by decide +kernel
theorem dX9_lays_92 : decode cX9_lays 92 = .ok (.imul, 1) := by decide +kernel
theorem dX9_lays_93 : decode cX9_lays 93 = .ok (.iload 4, 2) := by decide +kernel
theorem dX9_lays_95 : decode cX9_lays 95 = .ok (.iadd, 1) := by decide +kernel
theorem dX9_lays_96 : decode cX9_lays 96 = .ok (.aload_n 0, 1) := by decide +kernel
theorem dX9_lays_97 : decode cX9_lays 97 = .ok (.aload_n 0, 1) := by decide +kernel
theorem dX9_lays_98 : decode cX9_lays 98 = .ok (.iload_n 3, 1) := by decide +kernel
theorem dX9_lays_99 : decode cX9_lays 99 = .ok (.invokevirtual 202, 3) := by decide +kernel
theorem dX9_lays_102 : decode cX9_lays 102 = .ok (.iload 4, 2) := by decide +kernel
theorem dX9_lays_104 : decode cX9_lays 104 = .ok (.iconst 0, 1) := by decide +kernel
theorem dX9_lays_105 : decode cX9_lays 105 = .ok (.invokevirtual 191, 3) := by decide +kernel
theorem dX9_lays_108 : decode cX9_lays 108 = .ok (.iastore, 1) := by decide +kernel
theorem dX9_lays_109 : decode cX9_lays 109 = .ok (.iinc 4 1, 3) := by decide +kernel
theorem dX9_lays_112 : decode cX9_lays 112 = .ok (.goto (-36), 3) := by decide +kernel
theorem dX9_lays_115 : decode cX9_lays 115 = .ok (.aload_n 0, 1) := by decide +kernel
theorem dX9_lays_116 : decode cX9_lays 116 = .ok (.iload_n 3, 1) := by decide +kernel
theorem dX9_lays_117 : decode cX9_lays 117 = .ok (.putfield 205, 3) := by decide +kernel
theorem dX9_lays_120 : decode cX9_lays 120 = .ok (.aload_n 0, 1) := by decide +kernel
theorem dX9_lays_121 : decode cX9_lays 121 = .ok (.getfield 53, 3) := by decide +kernel
theorem dX9_lays_124 : decode cX9_lays 124 = .ok (.iload_n 3, 1) := by decide +kernel
theorem dX9_lays_125 : decode cX9_lays 125 = .ok (.aload_n 0, 1) := by decide +kernel
theorem dX9_lays_126 : decode cX9_lays 126 = .ok (.getfield 208, 3) := by decide +kernel
theorem dX9_lays_129 : decode cX9_lays 129 = .ok (.iastore, 1) := by decide +kernel
theorem dX9_lays_130 : decode cX9_lays 130 = .ok (.aload_n 0, 1) := by decide +kernel
theorem dX9_lays_131 : decode cX9_lays 131 = .ok (.iconst 0, 1) := by decide +kernel
theorem dX9_lays_132 : decode cX9_lays 132 = .ok (.iconst 0, 1) := by decide +kernel
theorem dX9_lays_133 : decode cX9_lays 133 = .ok (.invokevirtual 217, 3) := by decide +kernel
theorem dX9_lays_136 : decode cX9_lays 136 = .ok (.aload_n 0, 1) := by decide +kernel
theorem dX9_lays_137 : decode cX9_lays 137 = .ok (.getfield 56, 3) := by decide +kernel
theorem dX9_lays_140 : decode cX9_lays 140 = .ok (.iload_n 3, 1) := by decide +kernel
theorem dX9_lays_141 : decode cX9_lays 141 = .ok (.aload_n 0, 1) := by decide +kernel
theorem dX9_lays_142 : decode cX9_lays 142 = .ok (.getfield 208, 3) := by decide +kernel
theorem dX9_lays_145 : decode cX9_lays 145 = .ok (.aload_n 0, 1) := by decide +kernel
theorem dX9_lays_146 : decode cX9_lays 146 = .ok (.getfield 53, 3) := by decide +kernel
theorem dX9_lays_149 : decode cX9_lays 149 = .ok (.iload_n 3, 1) := by decide +kernel
theorem dX9_lays_150 : decode cX9_lays 150 = .ok (.iaload, 1) := by decide +kernel
theorem dX9_lays_151 : decode cX9_lays 151 = .ok (.isub, 1) := by decide +kernel
theorem dX9_lays_152 : decode cX9_lays 152 = .ok (.iastore, 1) := by decide +kernel
theorem dX9_lays_153 : decode cX9_lays 153 = .ok (.aload_n 0, 1) := by decide +kernel
theorem dX9_lays_154 : decode cX9_lays 154 = .ok (.iload_n 3, 1) := by decide +kernel
theorem dX9_lays_155 : decode cX9_lays 155 = .ok (.invokevirtual 272, 3) := by decide +kernel
theorem dX9_lays_158 : decode cX9_lays 158 = .ok (.iconst 0, 1) := by decide +kernel
theorem dX9_lays_159 : decode cX9_lays 159 = .ok (.istore 4, 2) := by decide +kernel
theorem dX9_lays_161 : decode cX9_lays 161 = .ok (.iload 4, 2) := by decide +kernel
theorem dX9_lays_163 : decode cX9_lays 163 = .ok (.aload_n 0, 1) := by decide +kernel
theorem dX9_lays_164 : decode cX9_lays 164 = .ok (.getfield 153, 3) := by decide +kernel
theorem dX9_lays_167 : decode cX9_lays 167 = .ok (.if_icmp .ge 46, 3) := by decide +kernel
theorem dX9_lays_170 : decode cX9_lays 170 = .ok (.aload_n 0, 1) := by decide +kernel
theorem dX9_lays_171 : decode cX9_lays 171 = .ok (.getfield 22, 3) := by decide +kernel
theorem dX9_lays_174 : decode cX9_lays 174 = .ok (.iload_n 3, 1) := by decide +kernel
theorem dX9_lays_175 : decode cX9_lays 175 = .ok (.baload, 1) := by decide +kernel
theorem dX9_lays_176 : decode cX9_lays 176 = .ok (.ifCond .eq 37, 3) := by decide +kernel
theorem dX9_lays_179 : decode cX9_lays 179 = .ok (.aload_n 0, 1) := by decide +kernel
theorem dX9_lays_180 : decode cX9_lays 180 = .ok (.getfield 26, 3) := by decide +kernel
theorem dX9_lays_183 : decode cX9_lays 183 = .ok (.iload 4, 2) := by decide +kernel
theorem dX9_lays_185 : decode cX9_lays 185 = .ok (.baload, 1) := by decide +kernel
theorem dX9_lays_186 : decode cX9_lays 186 = .ok (.ifCond .eq 21, 3) := by decide +kernel
theorem dX9_lays_189 : decode cX9_lays 189 = .ok (.aload_n 0, 1) := by decide +kernel
theorem dX9_lays_190 : decode cX9_lays 190 = .ok (.getfield 96, 3) := by decide +kernel
theorem dX9_lays_193 : decode cX9_lays 193 = .ok (.bipush 11, 2) := by decide +kernel
theorem dX9_lays_195 : decode cX9_lays 195 = .ok (.iload_n 3, 1) := by decide +kernel
theorem dX9_lays_196 : decode cX9_lays 196 = .ok (.imul, 1) := by decide +kernel
theorem dX9_lays_197 : decode cX9_lays 197 = .ok (.iload 4, 2) := by decide +kernel
theorem dX9_lays_199 : decode cX9_lays 199 = .ok (.iadd, 1) := by decide +kernel
theorem dX9_lays_200 : decode cX9_lays 200 = .ok (.aload_n 0, 1) := by decide +kernel
theorem dX9_lays_201 : decode cX9_lays 201 = .ok (.iload 4, 2) := by decide +kernel
theorem dX9_lays_203 : decode cX9_lays 203 = .ok (.invokevirtual 275, 3) := by decide +kernel
theorem dX9_lays_206 : decode cX9_lays 206 = .ok (.iastore, 1) := by decide +kernel
theorem dX9_lays_207 : decode cX9_lays 207 = .ok (.iinc 4 1, 3) := by decide +kernel
theorem dX9_lays_210 : decode cX9_lays 210 = .ok (.goto (-49), 3) := by decide +kernel
theorem dX9_lays_213 : decode cX9_lays 213 = .ok (.iinc 3 1, 3) := by decide +kernel
theorem dX9_lays_216 : decode cX9_lays 216 = .ok (.goto (-151), 3) := by decide +kernel
theorem dX9_lays_219 : decode cX9_lays 219 = .ok (.aload_n 0, 1) := by decide +kernel
theorem dX9_lays_220 : decode cX9_lays 220 = .ok (.invokevirtual 278, 3) := by decide +kernel
theorem dX9_lays_223 : decode cX9_lays 223 = .ok (.iconst 0, 1) := by decide +kernel
theorem dX9_lays_224 : decode cX9_lays 224 = .ok (.istore_n 3, 1) := by decide +kernel
theorem dX9_lays_225 : decode cX9_lays 225 = .ok (.iload_n 3, 1) := by decide +kernel
theorem dX9_lays_226 : decode cX9_lays 226 = .ok (.aload_n 0, 1) := by decide +kernel
theorem dX9_lays_227 : decode cX9_lays 227 = .ok (.getfield 153, 3) := by decide +kernel
theorem dX9_lays_230 : decode cX9_lays 230 = .ok (.if_icmp .ge 107, 3) := by decide +kernel
theorem dX9_lays_233 : decode cX9_lays 233 = .ok (.iconst 0, 1) := by decide +kernel
theorem dX9_lays_234 : decode cX9_lays 234 = .ok (.istore 4, 2) := by decide +kernel
theorem dX9_lays_236 : decode cX9_lays 236 = .ok (.iload 4, 2) := by decide +kernel
theorem dX9_lays_238 : decode cX9_lays 238 = .ok (.aload_n 0, 1) := by decide +kernel
theorem dX9_lays_239 : decode cX9_lays 239 = .ok (.getfield 153, 3) := by decide +kernel
theorem dX9_lays_242 : decode cX9_lays 242 = .ok (.if_icmp .ge 89, 3) := by decide +kernel
theorem dX9_lays_245 : decode cX9_lays 245 = .ok (.aload_n 0, 1) := by decide +kernel
theorem dX9_lays_246 : decode cX9_lays 246 = .ok (.getfield 22, 3) := by decide +kernel
theorem dX9_lays_249 : decode cX9_lays 249 = .ok (.iload_n 3, 1) := by decide +kernel
theorem dX9_lays_250 : decode cX9_lays 250 = .ok (.baload, 1) := by decide +kernel
theorem dX9_lays_251 : decode cX9_lays 251 = .ok (.ifCond .eq 80, 3) := by decide +kernel
theorem dX9_lays_254 : decode cX9_lays 254 = .ok (.iconst 0, 1) := by decide +kernel
theorem dX9_lays_255 : decode cX9_lays 255 = .ok (.istore 5, 2) := by decide +kernel
theorem dX9_lays_257 : decode cX9_lays 257 = .ok (.iconst 0, 1) := by decide +kernel
theorem dX9_lays_258 : decode cX9_lays 258 = .ok (.istore 6, 2) := by decide +kernel
theorem dX9_lays_260 : decode cX9_lays 260 = .ok (.iload 6, 2) := by decide +kernel
theorem dX9_lays_262 : decode cX9_lays 262 = .ok (.aload_n 0, 1) := by decide +kernel
theorem dX9_lays_263 : decode cX9_lays 263 = .ok (.getfield 153, 3) := by decide +kernel
theorem dX9_lays_266 : decode cX9_lays 266 = .ok (.if_icmp .ge 45, 3) := by decide +kernel
theorem dX9_lays_269 : decode cX9_lays 269 = .ok (.iload 5, 2) := by decide +kernel
theorem dX9_lays_271 : decode cX9_lays 271 = .ok (.aload_n 0, 1) := by decide +kernel
theorem dX9_lays_272 : decode cX9_lays 272 = .ok (.getfield 99, 3) := by decide +kernel
theorem dX9_lays_275 : decode cX9_lays 275 = .ok (.bipush 11, 2) := by decide +kernel
theorem dX9_lays_277 : decode cX9_lays 277 = .ok (.iload 6, 2) := by decide +kernel
theorem dX9_lays_279 : decode cX9_lays 279 = .ok (.imul, 1) := by decide +kernel
theorem dX9_lays_280 : decode cX9_lays 280 = .ok (.aload_n 0, 1) := by decide +kernel
theorem dX9_lays_281 : decode cX9_lays 281 = .ok (.getfield 32, 3) := by decide +kernel
theorem dX9_lays_284 : decode cX9_lays 284 = .ok (.iload_n 3, 1) := by decide +kernel
theorem dX9_lays_285 : decode cX9_lays 285 = .ok (.iaload, 1) := by decide +kernel
theorem dX9_lays_286 : decode cX9_lays 286 = .ok (.iadd, 1) := by decide +kernel
theorem dX9_lays_287 : decode cX9_lays 287 = .ok (.iaload, 1) := by decide +kernel
theorem dX9_lays_288 : decode cX9_lays 288 = .ok (.aload_n 0, 1) := by decide +kernel
theorem dX9_lays_289 : decode cX9_lays 289 = .ok (.getfield 38, 3) := by decide +kernel
theorem dX9_lays_292 : decode cX9_lays 292 = .ok (.bipush 11, 2) := by decide +kernel
theorem dX9_lays_294 : decode cX9_lays 294 = .ok (.iload 6, 2) := by decide +kernel
theorem dX9_lays_296 : decode cX9_lays 296 = .ok (.imul, 1) := by decide +kernel
theorem dX9_lays_297 : decode cX9_lays 297 = .ok (.iload 4, 2) := by decide +kernel
theorem dX9_lays_299 : decode cX9_lays 299 = .ok (.iadd, 1) := by decide +kernel
theorem dX9_lays_300 : decode cX9_lays 300 = .ok (.iaload, 1) := by decide +kernel
theorem dX9_lays_301 : decode cX9_lays 301 = .ok (.imul, 1) := by decide +kernel
theorem dX9_lays_302 : decode cX9_lays 302 = .ok (.iadd, 1) := by decide +kernel
theorem dX9_lays_303 : decode cX9_lays 303 = .ok (.istore 5, 2) := by decide +kernel
theorem dX9_lays_305 : decode cX9_lays 305 = .ok (.iinc 6 1, 3) := by decide +kernel
theorem dX9_lays_308 : decode cX9_lays 308 = .ok (.goto (-48), 3) := by decide +kernel
theorem dX9_lays_311 : decode cX9_lays 311 = .ok (.aload_n 0, 1) := by decide +kernel
theorem dX9_lays_312 : decode cX9_lays 312 = .ok (.getfield 105, 3) := by decide +kernel
theorem dX9_lays_315 : decode cX9_lays 315 = .ok (.bipush 11, 2) := by decide +kernel
theorem dX9_lays_317 : decode cX9_lays 317 = .ok (.iload_n 3, 1) := by decide +kernel
theorem dX9_lays_318 : decode cX9_lays 318 = .ok (.imul, 1) := by decide +kernel
theorem dX9_lays_319 : decode cX9_lays 319 = .ok (.iload 4, 2) := by decide +kernel
theorem dX9_lays_321 : decode cX9_lays 321 = .ok (.iadd, 1) := by decide +kernel
theorem dX9_lays_322 : decode cX9_lays 322 = .ok (.iload 5, 2) := by decide +kernel
theorem dX9_lays_324 : decode cX9_lays 324 = .ok (.iastore, 1) := by decide +kernel
theorem dX9_lays_325 : decode cX9_lays 325 = .ok (.iinc 4 1, 3) := by decide +kernel
theorem dX9_lays_328 : decode cX9_lays 328 = .ok (.goto (-92), 3) := by decide +kernel
theorem dX9_lays_331 : decode cX9_lays 331 = .ok (.iinc 3 1, 3) := by decide +kernel
theorem dX9_lays_334 : decode cX9_lays 334 = .ok (.goto (-109), 3) := by decide +kernel
theorem dX9_lays_337 : decode cX9_lays 337 = .ok (.iconst 0, 1) := by decide +kernel
theorem dX9_lays_338 : decode cX9_lays 338 = .ok (.istore_n 3, 1) := by decide +kernel
theorem dX9_lays_339 : decode cX9_lays 339 = .ok (.iload_n 3, 1) := by decide +kernel
theorem dX9_lays_340 : decode cX9_lays 340 = .ok (.bipush 66, 2) := by decide +kernel
theorem dX9_lays_342 : decode cX9_lays 342 = .ok (.if_icmp .ge 16, 3) := by decide +kernel
theorem dX9_lays_345 : decode cX9_lays 345 = .ok (.aload_n 0, 1) := by decide +kernel
theorem dX9_lays_346 : decode cX9_lays 346 = .ok (.getfield 115, 3) := by decide +kernel
theorem dX9_lays_349 : decode cX9_lays 349 = .ok (.iload_n 3, 1) := by decide +kernel
theorem dX9_lays_350 : decode cX9_lays 350 = .ok (.lconst 0, 1) := by decide +kernel
theorem dX9_lays_351 : decode cX9_lays 351 = .ok (.lastore, 1) := by decide +kernel
theorem dX9_lays_352 : decode cX9_lays 352 = .ok (.iinc 3 1, 3) := by decide +kernel
theorem dX9_lays_355 : decode cX9_lays 355 = .ok (.goto (-16), 3) := by decide +kernel
theorem dX9_lays_358 : decode cX9_lays 358 = .ok (.return_, 1) := by decide +kernel
theorem dX9_group_0 : decode cX9_group 0 = .ok (.iload_n 1, 1) := by decide +kernel
theorem dX9_group_1 : decode cX9_group 1 = .ok (.i2l, 1) := by decide +kernel
theorem dX9_group_2 : decode cX9_group 2 = .ok (.lconst 1, 1) := by decide +kernel
theorem dX9_group_3 : decode cX9_group 3 = .ok (.ldc2_w 281, 3) := by decide +kernel
theorem dX9_group_6 : decode cX9_group 6 = .ok (.invokestatic 283, 3) := by decide +kernel
theorem dX9_group_9 : decode cX9_group 9 = .ok (.ifCond .eq 24, 3) := by decide +kernel
theorem dX9_group_12 : decode cX9_group 12 = .ok (.iload_n 2, 1) := by decide +kernel
theorem dX9_group_13 : decode cX9_group 13 = .ok (.iconst 2, 1) := by decide +kernel
theorem dX9_group_14 : decode cX9_group 14 = .ok (.if_icmp .eq 21, 3) := by decide +kernel
theorem dX9_group_17 : decode cX9_group 17 = .ok (.iload_n 2, 1) := by decide +kernel
theorem dX9_group_18 : decode cX9_group 18 = .ok (.iconst 3, 1) := by decide +kernel
theorem dX9_group_19 : decode cX9_group 19 = .ok (.if_icmp .eq 16, 3) := by decide +kernel
theorem dX9_group_22 : decode cX9_group 22 = .ok (.iload_n 2, 1) := by decide +kernel
theorem dX9_group_23 : decode cX9_group 23 = .ok (.iconst 5, 1) := by decide +kernel
theorem dX9_group_24 : decode cX9_group 24 = .ok (.if_icmp .eq 11, 3) := by decide +kernel
theorem dX9_group_27 : decode cX9_group 27 = .ok (.iload_n 2, 1) := by decide +kernel
theorem dX9_group_28 : decode cX9_group 28 = .ok (.bipush 7, 2) := by decide +kernel
theorem dX9_group_30 : decode cX9_group 30 = .ok (.if_icmp .eq 5, 3) := by decide +kernel
theorem dX9_group_33 : decode cX9_group 33 = .ok (.iconst (-1), 1) := by decide +kernel
theorem dX9_group_34 : decode cX9_group 34 = .ok (.ireturn, 1) := by decide +kernel
theorem dX9_group_35 : decode cX9_group 35 = .ok (.aload_n 0, 1) := by decide +kernel
theorem dX9_group_36 : decode cX9_group 36 = .ok (.iload_n 1, 1) := by decide +kernel
theorem dX9_group_37 : decode cX9_group 37 = .ok (.iload_n 2, 1) := by decide +kernel
theorem dX9_group_38 : decode cX9_group 38 = .ok (.invokevirtual 149, 3) := by decide +kernel
theorem dX9_group_41 : decode cX9_group 41 = .ok (.aload_n 0, 1) := by decide +kernel
theorem dX9_group_42 : decode cX9_group 42 = .ok (.getfield 153, 3) := by decide +kernel
theorem dX9_group_45 : decode cX9_group 45 = .ok (.ireturn, 1) := by decide +kernel
theorem dJ9_max_7cf53_0 : decode cJ9_max_7cf53 0 = .ok (.iload_n 0, 1) := by decide +kernel
theorem dJ9_max_7cf53_1 : decode cJ9_max_7cf53 1 = .ok (.iload_n 1, 1) := by decide +kernel
theorem dJ9_max_7cf53_2 : decode cJ9_max_7cf53 2 = .ok (.if_icmp .lt 7, 3) := by decide +kernel
theorem dJ9_max_7cf53_5 : decode cJ9_max_7cf53 5 = .ok (.iload_n 0, 1) := by decide +kernel
theorem dJ9_max_7cf53_6 : decode cJ9_max_7cf53 6 = .ok (.goto 4, 3) := by decide +kernel
theorem dJ9_max_7cf53_9 : decode cJ9_max_7cf53 9 = .ok (.iload_n 1, 1) := by decide +kernel
theorem dJ9_max_7cf53_10 : decode cJ9_max_7cf53 10 = .ok (.ireturn, 1) := by decide +kernel
theorem dJ9_min_7cf53_0 : decode cJ9_min_7cf53 0 = .ok (.iload_n 0, 1) := by decide +kernel
theorem dJ9_min_7cf53_1 : decode cJ9_min_7cf53 1 = .ok (.iload_n 1, 1) := by decide +kernel
theorem dJ9_min_7cf53_2 : decode cJ9_min_7cf53 2 = .ok (.if_icmp .gt 7, 3) := by decide +kernel
theorem dJ9_min_7cf53_5 : decode cJ9_min_7cf53 5 = .ok (.iload_n 0, 1) := by decide +kernel
theorem dJ9_min_7cf53_6 : decode cJ9_min_7cf53 6 = .ok (.goto 4, 3) := by decide +kernel
theorem dJ9_min_7cf53_9 : decode cJ9_min_7cf53 9 = .ok (.iload_n 1, 1) := by decide +kernel
theorem dJ9_min_7cf53_10 : decode cJ9_min_7cf53 10 = .ok (.ireturn, 1) := by decide +kernel
