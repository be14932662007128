/-! the reference by summaries, by program -/
noncomputable def bX9_decomposesa_500 {d : Nat} (P : zP d) (r447 : zK d) : zK d := (xasQ 0 (fun v => v) (xincR 3 1 r447))
set_option maxRecDepth 100000 in
set_option maxHeartbeats 4000000 in
theorem sbX9_decomposesa_500 {d : Nat} [zGh] (P : zP d) (r447 : zK d) (hr447 : zSimJ 1 X_X9_decomposes 2 P 447 r447) : zSim X_X9_decomposes 2 P 500 (bX9_decomposesa_500 P r447) := by
  unfold bX9_decomposesa_500
  refine sm_iastoreQ (pc := 500) dX9_decomposes_500 ?_
  refine sm_iincR (pc := 501) (n := 3) dX9_decomposes_501 zc_i_1 ?_
  refine sm_goto (pc := 504) (tgt := 447) dX9_decomposes_504 (by decide) ?_
  exact hr447.use
noncomputable def cX9_decomposesa_486 {d : Nat} (P : zP d) (r447 : zK d) : zK d := (xjn wkE (zsp [zI 4294967296] 2) (bX9_decomposesa_500 P r447) (fun j500 => (xcmpS tleR rlS rhLe rlGt rhS (xild 4 j500) (xild 4 (xpI 32003 (xbin zsubR j500))))))
set_option maxRecDepth 100000 in
set_option maxHeartbeats 4000000 in
theorem scX9_decomposesa_486 {d : Nat} [zGh] (P : zP d) (r447 : zK d) (hr447 : zSimJ 1 X_X9_decomposes 2 P 447 r447) : zSim X_X9_decomposes 2 P 486 (cX9_decomposesa_486 P r447) := by
  unfold cX9_decomposesa_486
  refine sm_jn (pc := 486) (pc' := 500) (j := 1) wkE_ok (zsp_ok _ _) (fun G0 hG0 => @sbX9_decomposesa_500 d G0 P r447 (hr447.mv hG0 (by decide))) (fun j500 hj500 => ?_)
  refine sm_icmpS_le (pc := 486) (tgt := 498) dX9_decomposes_486 (by decide) ?_ ?_
  · skip
    refine sm_iload (pc := 498) (n := 4) dX9_decomposes_498 ?_
    exact hj500.use
  · skip
    refine sm_iload (pc := 489) (n := 4) dX9_decomposes_489 ?_
    refine sm_sipush (pc := 491) dX9_decomposes_491 zc_s_32003 ?_
    refine sm_isubR (pc := 494) dX9_decomposes_494 ?_
    refine sm_goto (pc := 495) (tgt := 500) dX9_decomposes_495 (by decide) ?_
    exact hj500.use
noncomputable def lX9_decomposesa_447 {d : Nat} (P : zP d) (r437 : zK d) (r447 : zK d) : zK d := (xild 3 (xald 0 (xgfI 25 11 (xcmpS tgeR rlGe rhS rlS rhLt (xincR 2 1 r437) (xald 0 (xgfR 25 39 (xpI 22 (xild 3 (xbin zmulR (xpI 11 (xbin zaddR (xild 2 (xbin zaddR (xalQ 0 (xist 4 (xald 0 (xgfR 25 38 (xpI 11 (xild 2 (xbin zmulR (xild 3 (xbin zaddR (xild 4 (xpI 16001 (cX9_decomposesa_486 P r447)))))))))))))))))))))))))
set_option maxRecDepth 100000 in
set_option maxHeartbeats 4000000 in
theorem slX9_decomposesa_447 {d : Nat} [zGh] (P : zP d) (r437 : zK d) (r447 : zK d) (hr437 : zSimJ 1 X_X9_decomposes 2 P 437 r437) (hr447 : zSimJ 1 X_X9_decomposes 2 P 447 r447) : zSim X_X9_decomposes 2 P 447 (lX9_decomposesa_447 P r437 r447) := by
  unfold lX9_decomposesa_447
  refine sm_iload_n (pc := 447) (n := 3) dX9_decomposes_447 rfl ?_
  refine sm_aload_n (pc := 448) (n := 0) dX9_decomposes_448 rfl ?_
  refine gf_X9_172 (pc := 449) rfl dX9_decomposes_449 ?_
  refine sm_icmpS_ge (pc := 452) (tgt := 507) dX9_decomposes_452 (by decide) ?_ ?_
  · skip
    refine sm_iincR (pc := 507) (n := 2) dX9_decomposes_507 zc_i_1 ?_
    refine sm_goto (pc := 510) (tgt := 437) dX9_decomposes_510 (by decide) ?_
    exact hr437.use
  · skip
    refine sm_aload_n (pc := 455) (n := 0) dX9_decomposes_455 rfl ?_
    refine gf_X9_102 (pc := 456) rfl dX9_decomposes_456 ?_
    refine sm_bipush (pc := 459) dX9_decomposes_459 zc_b_22 ?_
    refine sm_iload_n (pc := 461) (n := 3) dX9_decomposes_461 rfl ?_
    refine sm_imulR (pc := 462) dX9_decomposes_462 ?_
    refine sm_bipush (pc := 463) dX9_decomposes_463 zc_b_11 ?_
    refine sm_iaddR (pc := 465) dX9_decomposes_465 ?_
    refine sm_iload_n (pc := 466) (n := 2) dX9_decomposes_466 rfl ?_
    refine sm_iaddR (pc := 467) dX9_decomposes_467 ?_
    refine sm_ialoadQ (pc := 468) dX9_decomposes_468 ?_
    refine sm_istore (pc := 469) (n := 4) dX9_decomposes_469 ?_
    refine sm_aload_n (pc := 471) (n := 0) dX9_decomposes_471 rfl ?_
    refine gf_X9_99 (pc := 472) rfl dX9_decomposes_472 ?_
    refine sm_bipush (pc := 475) dX9_decomposes_475 zc_b_11 ?_
    refine sm_iload_n (pc := 477) (n := 2) dX9_decomposes_477 rfl ?_
    refine sm_imulR (pc := 478) dX9_decomposes_478 ?_
    refine sm_iload_n (pc := 479) (n := 3) dX9_decomposes_479 rfl ?_
    refine sm_iaddR (pc := 480) dX9_decomposes_480 ?_
    refine sm_iload (pc := 481) (n := 4) dX9_decomposes_481 ?_
    refine sm_sipush (pc := 483) dX9_decomposes_483 zc_s_16001 ?_
    exact scX9_decomposesa_486 P r447 hr447
noncomputable def lX9_decomposesa_437 {d : Nat} (P : zP d) (r437 : zK d) : zK d := (xild 2 (xald 0 (xgfI 25 2 (xcmpS tgeR rlGe rhS rlS rhLt (xvret P) (xpI 0 (xist 3 (xloop (fun r447 => (lX9_decomposesa_447 P r437 r447)) 100000)))))))
set_option maxRecDepth 100000 in
set_option maxHeartbeats 4000000 in
theorem slX9_decomposesa_437 {d : Nat} [zGh] (P : zP d) (r437 : zK d) (hr437 : zSimJ 1 X_X9_decomposes 2 P 437 r437) : zSim X_X9_decomposes 2 P 437 (lX9_decomposesa_437 P r437) := by
  unfold lX9_decomposesa_437
  refine sm_iload_n (pc := 437) (n := 2) dX9_decomposes_437 rfl ?_
  refine sm_aload_n (pc := 438) (n := 0) dX9_decomposes_438 rfl ?_
  refine gf_X9_153 (pc := 439) rfl dX9_decomposes_439 ?_
  refine sm_icmpS_ge (pc := 442) (tgt := 513) dX9_decomposes_442 (by decide) ?_ ?_
  · skip
    exact sm_vreturn (pc := 513) dX9_decomposes_513 rfl
  · skip
    refine sm_iconst (pc := 445) dX9_decomposes_445 zc_i_0 ?_
    refine sm_istore_n (pc := 446) (n := 3) dX9_decomposes_446 rfl ?_
    exact (sm_loopJ (j := 1) (fun G1 hG1 r447 hr447 => @slX9_decomposesa_447 d G1 P r437 r447 (hr437.mv hG1 (by decide)) hr447) _).use
noncomputable def bX9_decomposesa_423 {d : Nat} (P : zP d) (r319 : zK d) : zK d := (xincR 5 1 r319)
set_option maxRecDepth 100000 in
set_option maxHeartbeats 4000000 in
theorem sbX9_decomposesa_423 {d : Nat} [zGh] (P : zP d) (r319 : zK d) (hr319 : zSimJ 5 X_X9_decomposes 2 P 319 r319) : zSim X_X9_decomposes 2 P 423 (bX9_decomposesa_423 P r319) := by
  unfold bX9_decomposesa_423
  refine sm_iincR (pc := 423) (n := 5) dX9_decomposes_423 zc_i_1 ?_
  refine sm_goto (pc := 426) (tgt := 319) dX9_decomposes_426 (by decide) ?_
  exact hr319.use
noncomputable def cX9_decomposesa_397 {d : Nat} (P : zP d) (r356 : zK d) : zK d := (xgfR 25 39 (xpI 22 (xild 2 (xbin zmulR (xild 7 (xbin zaddR (xalQ 0 (xi2l (xbinj zmulj (xbinj zaddj (xpL 32003 (xbinjN zremj (xl2i (xasQ 0 (fun v => v) (xincR 7 1 r356)))))))))))))))
set_option maxRecDepth 100000 in
set_option maxHeartbeats 4000000 in
theorem scX9_decomposesa_397 {d : Nat} [zGh] (P : zP d) (r356 : zK d) (hr356 : zSimJ 6 X_X9_decomposes 2 P 356 r356) : zSim X_X9_decomposes 2 P 397 (cX9_decomposesa_397 P r356) := by
  unfold cX9_decomposesa_397
  refine gf_X9_102 (pc := 397) rfl dX9_decomposes_397 ?_
  refine sm_bipush (pc := 400) dX9_decomposes_400 zc_b_22 ?_
  refine sm_iload_n (pc := 402) (n := 2) dX9_decomposes_402 rfl ?_
  refine sm_imulR (pc := 403) dX9_decomposes_403 ?_
  refine sm_iload (pc := 404) (n := 7) dX9_decomposes_404 ?_
  refine sm_iaddR (pc := 406) dX9_decomposes_406 ?_
  refine sm_ialoadQ (pc := 407) dX9_decomposes_407 ?_
  refine sm_i2l (pc := 408) dX9_decomposes_408 ?_
  refine sm_lmul (pc := 409) dX9_decomposes_409 ?_
  refine sm_ladd (pc := 410) dX9_decomposes_410 ?_
  refine sm_ldc2 (pc := 411) dX9_decomposes_411 wd_1017 zc_cl_32003 ?_
  refine sm_lrem (pc := 414) dX9_decomposes_414 ?_
  refine sm_l2i (pc := 415) dX9_decomposes_415 ?_
  refine sm_iastoreQ (pc := 416) dX9_decomposes_416 ?_
  refine sm_iincR (pc := 417) (n := 7) dX9_decomposes_417 zc_i_1 ?_
  refine sm_goto (pc := 420) (tgt := 356) dX9_decomposes_420 (by decide) ?_
  exact hr356.use
noncomputable def lX9_decomposesa_356 {d : Nat} (P : zP d) (j423 : zK d) (r356 : zK d) : zK d := (xild 7 (xpI 22 (xcmpS tgeR rlGe rhS rlS rhLt j423 (xald 0 (xgfR 25 39 (xpI 22 (xild 5 (xbin zmulR (xild 7 (xbin zaddR (xald 0 (xgfR 25 39 (xpI 22 (xild 5 (xbin zmulR (xild 7 (xbin zaddR (xalQ 0 (xi2l (xpI 32003 (xild 6 (xbin zsubR (xi2l (xald 0 (cX9_decomposesa_397 P r356)))))))))))))))))))))))))
set_option maxRecDepth 100000 in
set_option maxHeartbeats 4000000 in
theorem slX9_decomposesa_356 {d : Nat} [zGh] (P : zP d) (j423 : zK d) (r356 : zK d) (hj423 : zSimJ 5 X_X9_decomposes 2 P 423 j423) (hr356 : zSimJ 6 X_X9_decomposes 2 P 356 r356) : zSim X_X9_decomposes 2 P 356 (lX9_decomposesa_356 P j423 r356) := by
  unfold lX9_decomposesa_356
  refine sm_iload (pc := 356) (n := 7) dX9_decomposes_356 ?_
  refine sm_bipush (pc := 358) dX9_decomposes_358 zc_b_22 ?_
  refine sm_icmpS_ge (pc := 360) (tgt := 423) dX9_decomposes_360 (by decide) ?_ ?_
  · skip
    exact hj423.use
  · skip
    refine sm_aload_n (pc := 363) (n := 0) dX9_decomposes_363 rfl ?_
    refine gf_X9_102 (pc := 364) rfl dX9_decomposes_364 ?_
    refine sm_bipush (pc := 367) dX9_decomposes_367 zc_b_22 ?_
    refine sm_iload (pc := 369) (n := 5) dX9_decomposes_369 ?_
    refine sm_imulR (pc := 371) dX9_decomposes_371 ?_
    refine sm_iload (pc := 372) (n := 7) dX9_decomposes_372 ?_
    refine sm_iaddR (pc := 374) dX9_decomposes_374 ?_
    refine sm_aload_n (pc := 375) (n := 0) dX9_decomposes_375 rfl ?_
    refine gf_X9_102 (pc := 376) rfl dX9_decomposes_376 ?_
    refine sm_bipush (pc := 379) dX9_decomposes_379 zc_b_22 ?_
    refine sm_iload (pc := 381) (n := 5) dX9_decomposes_381 ?_
    refine sm_imulR (pc := 383) dX9_decomposes_383 ?_
    refine sm_iload (pc := 384) (n := 7) dX9_decomposes_384 ?_
    refine sm_iaddR (pc := 386) dX9_decomposes_386 ?_
    refine sm_ialoadQ (pc := 387) dX9_decomposes_387 ?_
    refine sm_i2l (pc := 388) dX9_decomposes_388 ?_
    refine sm_sipush (pc := 389) dX9_decomposes_389 zc_s_32003 ?_
    refine sm_iload (pc := 392) (n := 6) dX9_decomposes_392 ?_
    refine sm_isubR (pc := 394) dX9_decomposes_394 ?_
    refine sm_i2l (pc := 395) dX9_decomposes_395 ?_
    refine sm_aload_n (pc := 396) (n := 0) dX9_decomposes_396 rfl ?_
    exact scX9_decomposesa_397 P r356 hr356
noncomputable def lX9_decomposesa_319 {d : Nat} (P : zP d) (r136 : zK d) (r319 : zK d) : zK d := (xild 5 (xild 1 (xcmpS tgeR rlGe rhS rlS rhLt (xincR 2 1 r136) (xald 0 (xgfR 25 39 (xpI 22 (xild 5 (xbin zmulR (xild 2 (xbin zaddR (xalQ 0 (xist 6 (xild 5 (xild 2 (xjoin (bX9_decomposesa_423 P r319) (fun j423 => (xcmpS teqR rlEq rhEq rlNe rhNe j423 (xild 6 (xif0S teqR rlEq rhEq rlNe rhNe j423 (xpI 0 (xist 7 (xlp 7 5 (hsC 23) wkE (fun r356 => (lX9_decomposesa_356 P j423 r356))))))))))))))))))))))))
set_option maxRecDepth 100000 in
set_option maxHeartbeats 4000000 in
theorem slX9_decomposesa_319 {d : Nat} [zGh] (P : zP d) (r136 : zK d) (r319 : zK d) (hr136 : zSimJ 1 X_X9_decomposes 2 P 136 r136) (hr319 : zSimJ 5 X_X9_decomposes 2 P 319 r319) : zSim X_X9_decomposes 2 P 319 (lX9_decomposesa_319 P r136 r319) := by
  unfold lX9_decomposesa_319
  refine sm_iload (pc := 319) (n := 5) dX9_decomposes_319 ?_
  refine sm_iload_n (pc := 321) (n := 1) dX9_decomposes_321 rfl ?_
  refine sm_icmpS_ge (pc := 322) (tgt := 429) dX9_decomposes_322 (by decide) ?_ ?_
  · skip
    refine sm_iincR (pc := 429) (n := 2) dX9_decomposes_429 zc_i_1 ?_
    refine sm_goto (pc := 432) (tgt := 136) dX9_decomposes_432 (by decide) ?_
    exact hr136.use
  · skip
    refine sm_aload_n (pc := 325) (n := 0) dX9_decomposes_325 rfl ?_
    refine gf_X9_102 (pc := 326) rfl dX9_decomposes_326 ?_
    refine sm_bipush (pc := 329) dX9_decomposes_329 zc_b_22 ?_
    refine sm_iload (pc := 331) (n := 5) dX9_decomposes_331 ?_
    refine sm_imulR (pc := 333) dX9_decomposes_333 ?_
    refine sm_iload_n (pc := 334) (n := 2) dX9_decomposes_334 rfl ?_
    refine sm_iaddR (pc := 335) dX9_decomposes_335 ?_
    refine sm_ialoadQ (pc := 336) dX9_decomposes_336 ?_
    refine sm_istore (pc := 337) (n := 6) dX9_decomposes_337 ?_
    refine sm_iload (pc := 339) (n := 5) dX9_decomposes_339 ?_
    refine sm_iload_n (pc := 341) (n := 2) dX9_decomposes_341 rfl ?_
    refine sm_joinJ (pc := 342) (pc' := 423) (j := 5) (fun G0 hG0 => @sbX9_decomposesa_423 d G0 P r319 (hr319.mv hG0 (by decide))) (fun j423 hj423 => ?_)
    refine sm_icmpS_eq (pc := 342) (tgt := 423) dX9_decomposes_342 (by decide) ?_ ?_
    · skip
      exact hj423.use
    · skip
      refine sm_iload (pc := 345) (n := 6) dX9_decomposes_345 ?_
      refine sm_ifS_ne (pc := 347) (tgt := 353) dX9_decomposes_347 (by decide) ?_ ?_
      · skip
        refine sm_iconst (pc := 353) dX9_decomposes_353 zc_i_0 ?_
        refine sm_istore (pc := 354) (n := 7) dX9_decomposes_354 ?_
        exact sm_lp (i := 7) (j := 5) (by decide) (by decide) hsC_ok wkE_ok (fun G1 hG1 r356 hr356 => @slX9_decomposesa_356 d G1 P j423 r356 (hj423.mv hG1 (by decide)) hr356)
      · skip
        refine sm_goto (pc := 350) (tgt := 423) dX9_decomposes_350 (by decide) ?_
        exact hj423.use
noncomputable def cX9_decomposesa_308 {d : Nat} (P : zP d) (r269 : zK d) : zK d := (xl2i (xasQ 0 (fun v => v) (xincR 5 1 r269)))
set_option maxRecDepth 100000 in
set_option maxHeartbeats 4000000 in
theorem scX9_decomposesa_308 {d : Nat} [zGh] (P : zP d) (r269 : zK d) (hr269 : zSimJ 4 X_X9_decomposes 2 P 269 r269) : zSim X_X9_decomposes 2 P 308 (cX9_decomposesa_308 P r269) := by
  unfold cX9_decomposesa_308
  refine sm_l2i (pc := 308) dX9_decomposes_308 ?_
  refine sm_iastoreQ (pc := 309) dX9_decomposes_309 ?_
  refine sm_iincR (pc := 310) (n := 5) dX9_decomposes_310 zc_i_1 ?_
  refine sm_goto (pc := 313) (tgt := 269) dX9_decomposes_313 (by decide) ?_
  exact hr269.use
noncomputable def lX9_decomposesa_269 {d : Nat} (P : zP d) (r136 : zK d) (r269 : zK d) : zK d := (xild 5 (xpI 22 (xcmpS tgeR rlGe rhS rlS rhLt (xpI 0 (xist 5 (xlp 5 4 (hsL 1) wkE (fun r319 => (lX9_decomposesa_319 P r136 r319))))) (xald 0 (xgfR 25 39 (xpI 22 (xild 2 (xbin zmulR (xild 5 (xbin zaddR (xald 0 (xgfR 25 39 (xpI 22 (xild 2 (xbin zmulR (xild 5 (xbin zaddR (xalQ 0 (xi2l (xild 4 (xi2l (xbinj zmulj (xpL 32003 (xbinjN zremj (cX9_decomposesa_308 P r269)))))))))))))))))))))))))
set_option maxRecDepth 100000 in
set_option maxHeartbeats 4000000 in
theorem slX9_decomposesa_269 {d : Nat} [zGh] (P : zP d) (r136 : zK d) (r269 : zK d) (hr136 : zSimJ 1 X_X9_decomposes 2 P 136 r136) (hr269 : zSimJ 4 X_X9_decomposes 2 P 269 r269) : zSim X_X9_decomposes 2 P 269 (lX9_decomposesa_269 P r136 r269) := by
  unfold lX9_decomposesa_269
  refine sm_iload (pc := 269) (n := 5) dX9_decomposes_269 ?_
  refine sm_bipush (pc := 271) dX9_decomposes_271 zc_b_22 ?_
  refine sm_icmpS_ge (pc := 273) (tgt := 316) dX9_decomposes_273 (by decide) ?_ ?_
  · skip
    refine sm_iconst (pc := 316) dX9_decomposes_316 zc_i_0 ?_
    refine sm_istore (pc := 317) (n := 5) dX9_decomposes_317 ?_
    exact sm_lp (i := 5) (j := 4) (by decide) (by decide) hsL_ok wkE_ok (fun G1 hG1 r319 hr319 => @slX9_decomposesa_319 d G1 P r136 r319 (hr136.mv hG1 (by decide)) hr319)
  · skip
    refine sm_aload_n (pc := 276) (n := 0) dX9_decomposes_276 rfl ?_
    refine gf_X9_102 (pc := 277) rfl dX9_decomposes_277 ?_
    refine sm_bipush (pc := 280) dX9_decomposes_280 zc_b_22 ?_
    refine sm_iload_n (pc := 282) (n := 2) dX9_decomposes_282 rfl ?_
    refine sm_imulR (pc := 283) dX9_decomposes_283 ?_
    refine sm_iload (pc := 284) (n := 5) dX9_decomposes_284 ?_
    refine sm_iaddR (pc := 286) dX9_decomposes_286 ?_
    refine sm_aload_n (pc := 287) (n := 0) dX9_decomposes_287 rfl ?_
    refine gf_X9_102 (pc := 288) rfl dX9_decomposes_288 ?_
    refine sm_bipush (pc := 291) dX9_decomposes_291 zc_b_22 ?_
    refine sm_iload_n (pc := 293) (n := 2) dX9_decomposes_293 rfl ?_
    refine sm_imulR (pc := 294) dX9_decomposes_294 ?_
    refine sm_iload (pc := 295) (n := 5) dX9_decomposes_295 ?_
    refine sm_iaddR (pc := 297) dX9_decomposes_297 ?_
    refine sm_ialoadQ (pc := 298) dX9_decomposes_298 ?_
    refine sm_i2l (pc := 299) dX9_decomposes_299 ?_
    refine sm_iload (pc := 300) (n := 4) dX9_decomposes_300 ?_
    refine sm_i2l (pc := 302) dX9_decomposes_302 ?_
    refine sm_lmul (pc := 303) dX9_decomposes_303 ?_
    refine sm_ldc2 (pc := 304) dX9_decomposes_304 wd_1017 zc_cl_32003 ?_
    refine sm_lrem (pc := 307) dX9_decomposes_307 ?_
    exact scX9_decomposesa_308 P r269 hr269
noncomputable def bX9_decomposesa_244 {d : Nat} (P : zP d) (r136 : zK d) : zK d := (xald 0 (xgfR 25 39 (xpI 22 (xild 2 (xbin zmulR (xild 2 (xbin zaddR (xalQ 0 (xpI 32001 (xpI 32003 (xcS 3 0 0 (zstr f_X9_powera) (xist 4 (xpI 0 (xist 5 (xlp 5 3 (hsC 23) wkE (fun r269 => (lX9_decomposesa_269 P r136 r269)))))))))))))))))
set_option maxRecDepth 100000 in
set_option maxHeartbeats 4000000 in
theorem sbX9_decomposesa_244 {d : Nat} [zGh] (P : zP d) (r136 : zK d) (hr136 : zSimJ 1 X_X9_decomposes 2 P 136 r136) : zSim X_X9_decomposes 2 P 244 (bX9_decomposesa_244 P r136) := by
  unfold bX9_decomposesa_244
  refine sm_aload_n (pc := 244) (n := 0) dX9_decomposes_244 rfl ?_
  refine gf_X9_102 (pc := 245) rfl dX9_decomposes_245 ?_
  refine sm_bipush (pc := 248) dX9_decomposes_248 zc_b_22 ?_
  refine sm_iload_n (pc := 250) (n := 2) dX9_decomposes_250 rfl ?_
  refine sm_imulR (pc := 251) dX9_decomposes_251 ?_
  refine sm_iload_n (pc := 252) (n := 2) dX9_decomposes_252 rfl ?_
  refine sm_iaddR (pc := 253) dX9_decomposes_253 ?_
  refine sm_ialoadQ (pc := 254) dX9_decomposes_254 ?_
  refine sm_sipush (pc := 255) dX9_decomposes_255 zc_s_32001 ?_
  refine sm_sipush (pc := 258) dX9_decomposes_258 zc_s_32003 ?_
  refine sm_cS (pc := 261) (n := 3) (mc := 0) (ms := 0) (zMet_str m_X9_powera) (cr_X9_238 (X := X_X9_decomposes) (fr := 2) (frc := 1) (pc := 261) (mc := 0) (ms := 0) rfl (by decide) dX9_decomposes_261) ?_
  refine sm_istore (pc := 264) (n := 4) dX9_decomposes_264 ?_
  refine sm_iconst (pc := 266) dX9_decomposes_266 zc_i_0 ?_
  refine sm_istore (pc := 267) (n := 5) dX9_decomposes_267 ?_
  exact sm_lp (i := 5) (j := 3) (by decide) (by decide) hsC_ok wkE_ok (fun G1 hG1 r269 hr269 => @slX9_decomposesa_269 d G1 P r136 r269 (hr136.mv hG1 (by decide)) hr269)
noncomputable def cX9_decomposesa_219 {d : Nat} (P : zP d) (r174 : zK d) : zK d := (xild 4 (xbin zaddR (xalQ 0 (xasQ 0 (fun v => v) (xald 0 (xgfR 25 39 (xpI 22 (xild 2 (xbin zmulR (xild 4 (xbin zaddR (xild 5 (xasQ 0 (fun v => v) (xincR 4 1 r174))))))))))))))
set_option maxRecDepth 100000 in
set_option maxHeartbeats 4000000 in
theorem scX9_decomposesa_219 {d : Nat} [zGh] (P : zP d) (r174 : zK d) (hr174 : zSimJ 3 X_X9_decomposes 2 P 174 r174) : zSim X_X9_decomposes 2 P 219 (cX9_decomposesa_219 P r174) := by
  unfold cX9_decomposesa_219
  refine sm_iload (pc := 219) (n := 4) dX9_decomposes_219 ?_
  refine sm_iaddR (pc := 221) dX9_decomposes_221 ?_
  refine sm_ialoadQ (pc := 222) dX9_decomposes_222 ?_
  refine sm_iastoreQ (pc := 223) dX9_decomposes_223 ?_
  refine sm_aload_n (pc := 224) (n := 0) dX9_decomposes_224 rfl ?_
  refine gf_X9_102 (pc := 225) rfl dX9_decomposes_225 ?_
  refine sm_bipush (pc := 228) dX9_decomposes_228 zc_b_22 ?_
  refine sm_iload_n (pc := 230) (n := 2) dX9_decomposes_230 rfl ?_
  refine sm_imulR (pc := 231) dX9_decomposes_231 ?_
  refine sm_iload (pc := 232) (n := 4) dX9_decomposes_232 ?_
  refine sm_iaddR (pc := 234) dX9_decomposes_234 ?_
  refine sm_iload (pc := 235) (n := 5) dX9_decomposes_235 ?_
  refine sm_iastoreQ (pc := 237) dX9_decomposes_237 ?_
  refine sm_iincR (pc := 238) (n := 4) dX9_decomposes_238 zc_i_1 ?_
  refine sm_goto (pc := 241) (tgt := 174) dX9_decomposes_241 (by decide) ?_
  exact hr174.use
noncomputable def yX9_decomposesa_181 {d : Nat} (P : zP d) (j244 : zK d) (r174 : zK d) : zK d := (xild 3 (xild 1 (xcmpS tgeR rlGe rhS rlS rhLt j244 (xald 0 (xgfR 25 39 (xpI 22 (xild 3 (xbin zmulR (xild 4 (xbin zaddR (xalQ 0 (xist 5 (xald 0 (xgfR 25 39 (xpI 22 (xild 3 (xbin zmulR (xild 4 (xbin zaddR (xald 0 (xgfR 25 39 (xpI 22 (xild 2 (xbin zmulR (cX9_decomposesa_219 P r174)))))))))))))))))))))))))
set_option maxRecDepth 100000 in
set_option maxHeartbeats 4000000 in
theorem syX9_decomposesa_181 {d : Nat} [zGh] (P : zP d) (j244 : zK d) (r174 : zK d) (hj244 : zSimJ 3 X_X9_decomposes 2 P 244 j244) (hr174 : zSimJ 3 X_X9_decomposes 2 P 174 r174) : zSim X_X9_decomposes 2 P 181 (yX9_decomposesa_181 P j244 r174) := by
  unfold yX9_decomposesa_181
  refine sm_iload_n (pc := 181) (n := 3) dX9_decomposes_181 rfl ?_
  refine sm_iload_n (pc := 182) (n := 1) dX9_decomposes_182 rfl ?_
  refine sm_icmpS_ge (pc := 183) (tgt := 244) dX9_decomposes_183 (by decide) ?_ ?_
  · skip
    exact hj244.use
  · skip
    refine sm_aload_n (pc := 186) (n := 0) dX9_decomposes_186 rfl ?_
    refine gf_X9_102 (pc := 187) rfl dX9_decomposes_187 ?_
    refine sm_bipush (pc := 190) dX9_decomposes_190 zc_b_22 ?_
    refine sm_iload_n (pc := 192) (n := 3) dX9_decomposes_192 rfl ?_
    refine sm_imulR (pc := 193) dX9_decomposes_193 ?_
    refine sm_iload (pc := 194) (n := 4) dX9_decomposes_194 ?_
    refine sm_iaddR (pc := 196) dX9_decomposes_196 ?_
    refine sm_ialoadQ (pc := 197) dX9_decomposes_197 ?_
    refine sm_istore (pc := 198) (n := 5) dX9_decomposes_198 ?_
    refine sm_aload_n (pc := 200) (n := 0) dX9_decomposes_200 rfl ?_
    refine gf_X9_102 (pc := 201) rfl dX9_decomposes_201 ?_
    refine sm_bipush (pc := 204) dX9_decomposes_204 zc_b_22 ?_
    refine sm_iload_n (pc := 206) (n := 3) dX9_decomposes_206 rfl ?_
    refine sm_imulR (pc := 207) dX9_decomposes_207 ?_
    refine sm_iload (pc := 208) (n := 4) dX9_decomposes_208 ?_
    refine sm_iaddR (pc := 210) dX9_decomposes_210 ?_
    refine sm_aload_n (pc := 211) (n := 0) dX9_decomposes_211 rfl ?_
    refine gf_X9_102 (pc := 212) rfl dX9_decomposes_212 ?_
    refine sm_bipush (pc := 215) dX9_decomposes_215 zc_b_22 ?_
    refine sm_iload_n (pc := 217) (n := 2) dX9_decomposes_217 rfl ?_
    refine sm_imulR (pc := 218) dX9_decomposes_218 ?_
    exact scX9_decomposesa_219 P r174 hr174
noncomputable def lX9_decomposesa_174 {d : Nat} (P : zP d) (r136 : zK d) (r174 : zK d) : zK d := (xild 4 (xpI 22 (xjn (wkU 4 (wkU 5 wkE)) (zsp [] 2) (bX9_decomposesa_244 P r136) (fun j244 => (xcmpS tgeR rlGe rhS rlS rhLt j244 (xsym 3 3 (yX9_decomposesa_181 P j244 r174)))))))
set_option maxRecDepth 100000 in
set_option maxHeartbeats 4000000 in
theorem slX9_decomposesa_174 {d : Nat} [zGh] (P : zP d) (r136 : zK d) (r174 : zK d) (hr136 : zSimJ 1 X_X9_decomposes 2 P 136 r136) (hr174 : zSimJ 3 X_X9_decomposes 2 P 174 r174) : zSim X_X9_decomposes 2 P 174 (lX9_decomposesa_174 P r136 r174) := by
  unfold lX9_decomposesa_174
  refine sm_iload (pc := 174) (n := 4) dX9_decomposes_174 ?_
  refine sm_bipush (pc := 176) dX9_decomposes_176 zc_b_22 ?_
  refine sm_jn (pc := 178) (pc' := 244) (j := 3) (wkU_ok (wkU_ok wkE_ok)) (zsp_ok _ _) (fun G0 hG0 => @sbX9_decomposesa_244 d G0 P r136 (hr136.mv hG0 (by decide))) (fun j244 hj244 => ?_)
  refine sm_icmpS_ge (pc := 178) (tgt := 244) dX9_decomposes_178 (by decide) ?_ ?_
  · skip
    exact hj244.use
  · skip
    exact sm_sym (i := 3) (j := 3) (by decide) (fun G1 hG1 => @syX9_decomposesa_181 d G1 P j244 r174 (hj244.mv hG1 (by decide)) (hr174.mv hG1 (by decide)))
noncomputable def bX9_decomposesa_171 {d : Nat} (P : zP d) (r136 : zK d) : zK d := (xpI 0 (xist 4 (xlp 4 2 (hsC 23) wkE (fun r174 => (lX9_decomposesa_174 P r136 r174)))))
set_option maxRecDepth 100000 in
set_option maxHeartbeats 4000000 in
theorem sbX9_decomposesa_171 {d : Nat} [zGh] (P : zP d) (r136 : zK d) (hr136 : zSimJ 1 X_X9_decomposes 2 P 136 r136) : zSim X_X9_decomposes 2 P 171 (bX9_decomposesa_171 P r136) := by
  unfold bX9_decomposesa_171
  refine sm_iconst (pc := 171) dX9_decomposes_171 zc_i_0 ?_
  refine sm_istore (pc := 172) (n := 4) dX9_decomposes_172 ?_
  exact sm_lp (i := 4) (j := 2) (by decide) (by decide) hsC_ok wkE_ok (fun G1 hG1 r174 hr174 => @slX9_decomposesa_174 d G1 P r136 r174 (hr136.mv hG1 (by decide)) hr174)
noncomputable def lX9_decomposesa_146 {d : Nat} (P : zP d) (r136 : zK d) (r146 : zK d) : zK d := (xild 3 (xild 1 (xjn (wkB 3 1 wkE) (zsp [] 2) (bX9_decomposesa_171 P r136) (fun j171 => (xcmpS tgeR rlGe rhS rlS rhLt j171 (xald 0 (xgfR 25 39 (xpI 22 (xild 3 (xbin zmulR (xild 2 (xbin zaddR (xalQ 0 (xif0S teqR rlEq rhEq rlNe rhNe (xincR 3 1 r146) j171))))))))))))))
set_option maxRecDepth 100000 in
set_option maxHeartbeats 4000000 in
theorem slX9_decomposesa_146 {d : Nat} [zGh] (P : zP d) (r136 : zK d) (r146 : zK d) (hr136 : zSimJ 1 X_X9_decomposes 2 P 136 r136) (hr146 : zSimJ 2 X_X9_decomposes 2 P 146 r146) : zSim X_X9_decomposes 2 P 146 (lX9_decomposesa_146 P r136 r146) := by
  unfold lX9_decomposesa_146
  refine sm_iload_n (pc := 146) (n := 3) dX9_decomposes_146 rfl ?_
  refine sm_iload_n (pc := 147) (n := 1) dX9_decomposes_147 rfl ?_
  refine sm_jn (pc := 148) (pc' := 171) (j := 2) (wkB_ok wkE_ok) (zsp_ok _ _) (fun G0 hG0 => @sbX9_decomposesa_171 d G0 P r136 (hr136.mv hG0 (by decide))) (fun j171 hj171 => ?_)
  refine sm_icmpS_ge (pc := 148) (tgt := 171) dX9_decomposes_148 (by decide) ?_ ?_
  · skip
    exact hj171.use
  · skip
    refine sm_aload_n (pc := 151) (n := 0) dX9_decomposes_151 rfl ?_
    refine gf_X9_102 (pc := 152) rfl dX9_decomposes_152 ?_
    refine sm_bipush (pc := 155) dX9_decomposes_155 zc_b_22 ?_
    refine sm_iload_n (pc := 157) (n := 3) dX9_decomposes_157 rfl ?_
    refine sm_imulR (pc := 158) dX9_decomposes_158 ?_
    refine sm_iload_n (pc := 159) (n := 2) dX9_decomposes_159 rfl ?_
    refine sm_iaddR (pc := 160) dX9_decomposes_160 ?_
    refine sm_ialoadQ (pc := 161) dX9_decomposes_161 ?_
    refine sm_ifS_ne (pc := 162) (tgt := 171) dX9_decomposes_162 (by decide) ?_ ?_
    · skip
      exact hj171.use
    · skip
      refine sm_iincR (pc := 165) (n := 3) dX9_decomposes_165 zc_i_1 ?_
      refine sm_goto (pc := 168) (tgt := 146) dX9_decomposes_168 (by decide) ?_
      exact hr146.use
noncomputable def lX9_decomposesa_136 {d : Nat} (P : zP d) (r136 : zK d) : zK d := (xwk (wkA 0 [39] 4294967296 wkE) (xild 2 (xald 0 (xgfI 25 11 (xcmpS tgeR rlGe rhS rlS rhLt (xpI 0 (xist 2 (xloop (fun r437 => (lX9_decomposesa_437 P r437)) 100000))) (xild 2 (xist 3 (xlp 3 1 (hsL 1) (wkU 5 wkE) (fun r146 => (lX9_decomposesa_146 P r136 r146))))))))))
set_option maxRecDepth 100000 in
set_option maxHeartbeats 4000000 in
theorem slX9_decomposesa_136 {d : Nat} [zGh] (P : zP d) (r136 : zK d) (hr136 : zSimJ 1 X_X9_decomposes 2 P 136 r136) : zSim X_X9_decomposes 2 P 136 (lX9_decomposesa_136 P r136) := by
  unfold lX9_decomposesa_136
  refine sm_wk (wkA_ok wkE_ok) ?_
  refine sm_iload_n (pc := 136) (n := 2) dX9_decomposes_136 rfl ?_
  refine sm_aload_n (pc := 137) (n := 0) dX9_decomposes_137 rfl ?_
  refine gf_X9_172 (pc := 138) rfl dX9_decomposes_138 ?_
  refine sm_icmpS_ge (pc := 141) (tgt := 435) dX9_decomposes_141 (by decide) ?_ ?_
  · skip
    refine sm_iconst (pc := 435) dX9_decomposes_435 zc_i_0 ?_
    refine sm_istore_n (pc := 436) (n := 2) dX9_decomposes_436 rfl ?_
    exact (sm_loopJ (j := 1) (fun G1 hG1 r437 hr437 => @slX9_decomposesa_437 d G1 P r437 hr437) _).use
  · skip
    refine sm_iload_n (pc := 144) (n := 2) dX9_decomposes_144 rfl ?_
    refine sm_istore_n (pc := 145) (n := 3) dX9_decomposes_145 rfl ?_
    exact sm_lp (i := 3) (j := 1) (by decide) (by decide) hsL_ok (wkU_ok wkE_ok) (fun G1 hG1 r146 hr146 => @slX9_decomposesa_146 d G1 P r136 r146 (hr136.mv hG1 (by decide)) hr146)
noncomputable def bX9_decomposesa_128 {d : Nat} (P : zP d) (r4 : zK d) : zK d := (xincR 2 1 r4)
set_option maxRecDepth 100000 in
set_option maxHeartbeats 4000000 in
theorem sbX9_decomposesa_128 {d : Nat} [zGh] (P : zP d) (r4 : zK d) (hr4 : zSimJ 1 X_X9_decomposes 2 P 4 r4) : zSim X_X9_decomposes 2 P 128 (bX9_decomposesa_128 P r4) := by
  unfold bX9_decomposesa_128
  refine sm_iincR (pc := 128) (n := 2) dX9_decomposes_128 zc_i_1 ?_
  refine sm_goto (pc := 131) (tgt := 4) dX9_decomposes_131 (by decide) ?_
  exact hr4.use
noncomputable def cX9_decomposesa_119 {d : Nat} (P : zP d) (r26 : zK d) : zK d := (xincR 3 1 r26)
set_option maxRecDepth 100000 in
set_option maxHeartbeats 4000000 in
theorem scX9_decomposesa_119 {d : Nat} [zGh] (P : zP d) (r26 : zK d) (hr26 : zSimJ 1 X_X9_decomposes 2 P 26 r26) : zSim X_X9_decomposes 2 P 119 (cX9_decomposesa_119 P r26) := by
  unfold cX9_decomposesa_119
  refine sm_iincR (pc := 119) (n := 3) dX9_decomposes_119 zc_i_1 ?_
  refine sm_goto (pc := 122) (tgt := 26) dX9_decomposes_122 (by decide) ?_
  exact hr26.use
noncomputable def bX9_decomposesa_82 {d : Nat} (P : zP d) (r26 : zK d) : zK d := (xald 0 (xgfR 25 39 (xpI 22 (xild 1 (xbin zmulR (xpI 11 (xbin zaddR (xild 3 (xbin zaddR (xald 0 (xgfR 25 14 (xpI 11 (xild 3 (xbin zmulR (xild 2 (xbin zaddR (xalQ 0 (xpI 32003 (xbinN zremR (xpI 32003 (xbin zaddR (xpI 32003 (xbinN zremR (xasQ 0 (fun v => v) (cX9_decomposesa_119 P r26)))))))))))))))))))))))))
set_option maxRecDepth 100000 in
set_option maxHeartbeats 4000000 in
theorem sbX9_decomposesa_82 {d : Nat} [zGh] (P : zP d) (r26 : zK d) (hr26 : zSimJ 1 X_X9_decomposes 2 P 26 r26) : zSim X_X9_decomposes 2 P 82 (bX9_decomposesa_82 P r26) := by
  unfold bX9_decomposesa_82
  refine sm_aload_n (pc := 82) (n := 0) dX9_decomposes_82 rfl ?_
  refine gf_X9_102 (pc := 83) rfl dX9_decomposes_83 ?_
  refine sm_bipush (pc := 86) dX9_decomposes_86 zc_b_22 ?_
  refine sm_iload_n (pc := 88) (n := 1) dX9_decomposes_88 rfl ?_
  refine sm_imulR (pc := 89) dX9_decomposes_89 ?_
  refine sm_bipush (pc := 90) dX9_decomposes_90 zc_b_11 ?_
  refine sm_iaddR (pc := 92) dX9_decomposes_92 ?_
  refine sm_iload_n (pc := 93) (n := 3) dX9_decomposes_93 rfl ?_
  refine sm_iaddR (pc := 94) dX9_decomposes_94 ?_
  refine sm_aload_n (pc := 95) (n := 0) dX9_decomposes_95 rfl ?_
  refine gf_X9_38 (pc := 96) rfl dX9_decomposes_96 ?_
  refine sm_bipush (pc := 99) dX9_decomposes_99 zc_b_11 ?_
  refine sm_iload_n (pc := 101) (n := 3) dX9_decomposes_101 rfl ?_
  refine sm_imulR (pc := 102) dX9_decomposes_102 ?_
  refine sm_iload_n (pc := 103) (n := 2) dX9_decomposes_103 rfl ?_
  refine sm_iaddR (pc := 104) dX9_decomposes_104 ?_
  refine sm_ialoadQ (pc := 105) dX9_decomposes_105 ?_
  refine sm_sipush (pc := 106) dX9_decomposes_106 zc_s_32003 ?_
  refine sm_iremR (pc := 109) dX9_decomposes_109 ?_
  refine sm_sipush (pc := 110) dX9_decomposes_110 zc_s_32003 ?_
  refine sm_iaddR (pc := 113) dX9_decomposes_113 ?_
  refine sm_sipush (pc := 114) dX9_decomposes_114 zc_s_32003 ?_
  refine sm_iremR (pc := 117) dX9_decomposes_117 ?_
  refine sm_iastoreQ (pc := 118) dX9_decomposes_118 ?_
  exact scX9_decomposesa_119 P r26 hr26
noncomputable def cX9_decomposesa_66 {d : Nat} (P : zP d) (j82 : zK d) : zK d := (xild 2 (xbin zaddR (xalQ 0 (xpI 32003 (xbinN zremR (xpI 32003 (xbin zaddR (xpI 32003 (xbinN zremR (xasQ 0 (fun v => v) j82))))))))))
set_option maxRecDepth 100000 in
set_option maxHeartbeats 4000000 in
theorem scX9_decomposesa_66 {d : Nat} [zGh] (P : zP d) (j82 : zK d) (hj82 : zSimJ 1 X_X9_decomposes 2 P 82 j82) : zSim X_X9_decomposes 2 P 66 (cX9_decomposesa_66 P j82) := by
  unfold cX9_decomposesa_66
  refine sm_iload_n (pc := 66) (n := 2) dX9_decomposes_66 rfl ?_
  refine sm_iaddR (pc := 67) dX9_decomposes_67 ?_
  refine sm_ialoadQ (pc := 68) dX9_decomposes_68 ?_
  refine sm_sipush (pc := 69) dX9_decomposes_69 zc_s_32003 ?_
  refine sm_iremR (pc := 72) dX9_decomposes_72 ?_
  refine sm_sipush (pc := 73) dX9_decomposes_73 zc_s_32003 ?_
  refine sm_iaddR (pc := 76) dX9_decomposes_76 ?_
  refine sm_sipush (pc := 77) dX9_decomposes_77 zc_s_32003 ?_
  refine sm_iremR (pc := 80) dX9_decomposes_80 ?_
  refine sm_iastoreQ (pc := 81) dX9_decomposes_81 ?_
  exact hj82.use
noncomputable def lX9_decomposesa_26 {d : Nat} (P : zP d) (j128 : zK d) (r26 : zK d) : zK d := (xild 3 (xald 0 (xgfI 25 2 (xcmpS tgeR rlGe rhS rlS rhLt (xincR 1 1 j128) (xald 0 (xgfR 25 7 (xild 3 (xalQ 1 (xjoin (bX9_decomposesa_82 P r26) (fun j82 => (xif0S teqR rlEq rhEq rlNe rhNe j82 (xald 0 (xgfR 25 39 (xpI 22 (xild 1 (xbin zmulR (xald 0 (xgfR 25 10 (xild 3 (xalQ 0 (xbin zaddR (xald 0 (xgfR 25 37 (xpI 11 (xild 3 (xbin zmulR (cX9_decomposesa_66 P j82)))))))))))))))))))))))))))
set_option maxRecDepth 100000 in
set_option maxHeartbeats 4000000 in
theorem slX9_decomposesa_26 {d : Nat} [zGh] (P : zP d) (j128 : zK d) (r26 : zK d) (hj128 : zSimJ 1 X_X9_decomposes 2 P 128 j128) (hr26 : zSimJ 1 X_X9_decomposes 2 P 26 r26) : zSim X_X9_decomposes 2 P 26 (lX9_decomposesa_26 P j128 r26) := by
  unfold lX9_decomposesa_26
  refine sm_iload_n (pc := 26) (n := 3) dX9_decomposes_26 rfl ?_
  refine sm_aload_n (pc := 27) (n := 0) dX9_decomposes_27 rfl ?_
  refine gf_X9_153 (pc := 28) rfl dX9_decomposes_28 ?_
  refine sm_icmpS_ge (pc := 31) (tgt := 125) dX9_decomposes_31 (by decide) ?_ ?_
  · skip
    refine sm_iincR (pc := 125) (n := 1) dX9_decomposes_125 zc_i_1 ?_
    exact hj128.use
  · skip
    refine sm_aload_n (pc := 34) (n := 0) dX9_decomposes_34 rfl ?_
    refine gf_X9_22 (pc := 35) rfl dX9_decomposes_35 ?_
    refine sm_iload_n (pc := 38) (n := 3) dX9_decomposes_38 rfl ?_
    refine sm_baloadQ (pc := 39) dX9_decomposes_39 ?_
    refine sm_joinJ (pc := 40) (pc' := 82) (j := 1) (fun G0 hG0 => @sbX9_decomposesa_82 d G0 P r26 (hr26.mv hG0 (by decide))) (fun j82 hj82 => ?_)
    refine sm_ifS_eq (pc := 40) (tgt := 82) dX9_decomposes_40 (by decide) ?_ ?_
    · skip
      exact hj82.use
    · skip
      refine sm_aload_n (pc := 43) (n := 0) dX9_decomposes_43 rfl ?_
      refine gf_X9_102 (pc := 44) rfl dX9_decomposes_44 ?_
      refine sm_bipush (pc := 47) dX9_decomposes_47 zc_b_22 ?_
      refine sm_iload_n (pc := 49) (n := 1) dX9_decomposes_49 rfl ?_
      refine sm_imulR (pc := 50) dX9_decomposes_50 ?_
      refine sm_aload_n (pc := 51) (n := 0) dX9_decomposes_51 rfl ?_
      refine gf_X9_32 (pc := 52) rfl dX9_decomposes_52 ?_
      refine sm_iload_n (pc := 55) (n := 3) dX9_decomposes_55 rfl ?_
      refine sm_ialoadQ (pc := 56) dX9_decomposes_56 ?_
      refine sm_iaddR (pc := 57) dX9_decomposes_57 ?_
      refine sm_aload_n (pc := 58) (n := 0) dX9_decomposes_58 rfl ?_
      refine gf_X9_96 (pc := 59) rfl dX9_decomposes_59 ?_
      refine sm_bipush (pc := 62) dX9_decomposes_62 zc_b_11 ?_
      refine sm_iload_n (pc := 64) (n := 3) dX9_decomposes_64 rfl ?_
      refine sm_imulR (pc := 65) dX9_decomposes_65 ?_
      exact scX9_decomposesa_66 P j82 hj82
noncomputable def lX9_decomposesa_4 {d : Nat} (P : zP d) (r4 : zK d) : zK d := (xild 2 (xald 0 (xgfI 25 2 (xcmpS tgeR rlGe rhS rlS rhLt (xpI 0 (xist 2 (xloop (fun r136 => (lX9_decomposesa_136 P r136)) 100000))) (xald 0 (xgfR 25 8 (xild 2 (xalQ 1 (xjoin (bX9_decomposesa_128 P r4) (fun j128 => (xif0S teqR rlEq rhEq rlNe rhNe j128 (xpI 0 (xist 3 (xloop (fun r26 => (lX9_decomposesa_26 P j128 r26)) 100000))))))))))))))
set_option maxRecDepth 100000 in
set_option maxHeartbeats 4000000 in
theorem slX9_decomposesa_4 {d : Nat} [zGh] (P : zP d) (r4 : zK d) (hr4 : zSimJ 1 X_X9_decomposes 2 P 4 r4) : zSim X_X9_decomposes 2 P 4 (lX9_decomposesa_4 P r4) := by
  unfold lX9_decomposesa_4
  refine sm_iload_n (pc := 4) (n := 2) dX9_decomposes_4 rfl ?_
  refine sm_aload_n (pc := 5) (n := 0) dX9_decomposes_5 rfl ?_
  refine gf_X9_153 (pc := 6) rfl dX9_decomposes_6 ?_
  refine sm_icmpS_ge (pc := 9) (tgt := 134) dX9_decomposes_9 (by decide) ?_ ?_
  · skip
    refine sm_iconst (pc := 134) dX9_decomposes_134 zc_i_0 ?_
    refine sm_istore_n (pc := 135) (n := 2) dX9_decomposes_135 rfl ?_
    exact (sm_loopJ (j := 1) (fun G1 hG1 r136 hr136 => @slX9_decomposesa_136 d G1 P r136 hr136) _).use
  · skip
    refine sm_aload_n (pc := 12) (n := 0) dX9_decomposes_12 rfl ?_
    refine gf_X9_26 (pc := 13) rfl dX9_decomposes_13 ?_
    refine sm_iload_n (pc := 16) (n := 2) dX9_decomposes_16 rfl ?_
    refine sm_baloadQ (pc := 17) dX9_decomposes_17 ?_
    refine sm_joinJ (pc := 18) (pc' := 128) (j := 1) (fun G0 hG0 => @sbX9_decomposesa_128 d G0 P r4 (hr4.mv hG0 (by decide))) (fun j128 hj128 => ?_)
    refine sm_ifS_ne (pc := 18) (tgt := 24) dX9_decomposes_18 (by decide) ?_ ?_
    · skip
      refine sm_iconst (pc := 24) dX9_decomposes_24 zc_i_0 ?_
      refine sm_istore_n (pc := 25) (n := 3) dX9_decomposes_25 rfl ?_
      exact (sm_loopJ (j := 1) (fun G1 hG1 r26 hr26 => @slX9_decomposesa_26 d G1 P j128 r26 (hj128.mv hG1 (by decide)) hr26) _).use
    · skip
      refine sm_goto (pc := 21) (tgt := 128) dX9_decomposes_21 (by decide) ?_
      exact hj128.use
noncomputable def b_X9_decomposesa {d : Nat} (P : zP d) : zK d := (xpI 0 (xist 1 (xpI 0 (xist 2 (xloop (fun r4 => (lX9_decomposesa_4 P r4)) 100000)))))
set_option maxRecDepth 100000 in
set_option maxHeartbeats 4000000 in
theorem s_X9_decomposesa {d : Nat} [zGh] (P : zP d) : zSim X_X9_decomposes 2 P 0 (b_X9_decomposesa P) := by
  unfold b_X9_decomposesa
  refine sm_iconst (pc := 0) dX9_decomposes_0 zc_i_0 ?_
  refine sm_istore_n (pc := 1) (n := 1) dX9_decomposes_1 rfl ?_
  refine sm_iconst (pc := 2) dX9_decomposes_2 zc_i_0 ?_
  refine sm_istore_n (pc := 3) (n := 2) dX9_decomposes_3 rfl ?_
  exact (sm_loopJ (j := 1) (fun G1 hG1 r4 hr4 => @slX9_decomposesa_4 d G1 P r4 hr4) _).use
noncomputable def f_X9_decomposesa {d : Nat} : List zV → zH d → zP d → Bool := zfn 8 b_X9_decomposesa
theorem m_X9_decomposesa {d : Nat} : zMet (d := d) X_X9_decomposes yX9_decomposes 2 f_X9_decomposesa := zmet_mk (X := X_X9_decomposes) (by decide) rfl rfl s_X9_decomposesa

