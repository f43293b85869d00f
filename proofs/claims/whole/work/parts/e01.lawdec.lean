/-! the law's entry: its name and its instructions -/
abbrev m_Law_law : MD := (⟨"RowForgeLaw", "law", "([I)Z"⟩, code, 7, ret, [])
theorem st_Law_table : Cond.static m_Law_table.1 ∈ TB := tq4 139 rfl rfl
theorem st_Law_check : Cond.static m_Law_check.1 ∈ TB := tq4 199 rfl rfl
theorem st_Law_refer : Cond.static m_Law_refer.1 ∈ TB := tq5 6 rfl rfl
theorem st_Law_veil : Cond.static m_Law_veil.1 ∈ TB := tq5 22 rfl rfl
theorem st_Law_begin : Cond.static m_Law_begin.1 ∈ TB := tq5 33 rfl rfl
theorem st_Law_value : Cond.static m_Law_value.1 ∈ TB := tq5 191 rfl rfl
theorem st_Law_insert : Cond.static m_Law_insert.1 ∈ TB := tq5 198 rfl rfl
theorem st_Law_update : Cond.static m_Law_update.1 ∈ TB := tq6 184 rfl rfl
theorem st_Law_delete : Cond.static m_Law_delete.1 ∈ TB := tq6 195 rfl rfl
theorem st_Law_commit : Cond.static m_Law_commit.1 ∈ TB := tq6 206 rfl rfl
theorem st_Law_abort : Cond.static m_Law_abort.1 ∈ TB := tq7 135 rfl rfl
theorem st_Law_state : Cond.static m_Law_state.1 ∈ TB := tq7 144 rfl rfl
theorem st_Law_outcome : Cond.static m_Law_outcome.1 ∈ TB := tq7 151 rfl rfl
theorem st_Law_waitsFor : Cond.static m_Law_waitsFor.1 ∈ TB := tq7 158 rfl rfl
theorem st_Law_hasRead : Cond.static m_Law_hasRead.1 ∈ TB := tq7 165 rfl rfl
theorem st_Law_own : Cond.static m_Law_own.1 ∈ TB := tq7 177 rfl rfl
theorem st_Law_committed : Cond.static m_Law_committed.1 ∈ TB := tq7 189 rfl rfl
theorem st_Law_committedByLog : Cond.static m_Law_committedByLog.1 ∈ TB := tq7 196 rfl rfl
theorem st_Law_rowsOf : Cond.static m_Law_rowsOf.1 ∈ TB := tq7 207 rfl rfl
theorem st_Law_scan : Cond.static m_Law_scan.1 ∈ TB := tq7 214 rfl rfl
theorem st_Law_filter : Cond.static m_Law_filter.1 ∈ TB := tq7 234 rfl rfl
theorem st_Law_filterColumns : Cond.static m_Law_filterColumns.1 ∈ TB := tq8 13 rfl rfl
theorem st_Law_ratio : Cond.static m_Law_ratio.1 ∈ TB := tq8 20 rfl rfl
theorem st_Law_join : Cond.static m_Law_join.1 ∈ TB := tq8 27 rfl rfl
theorem st_Law_keep : Cond.static m_Law_keep.1 ∈ TB := tq8 42 rfl rfl
theorem st_Law_group : Cond.static m_Law_group.1 ∈ TB := tq8 55 rfl rfl
theorem st_Law_combine : Cond.static m_Law_combine.1 ∈ TB := tq8 62 rfl rfl
theorem st_Law_query : Cond.static m_Law_query.1 ∈ TB := tq8 69 rfl rfl
theorem st_Law_run : Cond.static m_Law_run.1 ∈ TB := tq8 77 rfl rfl
theorem st_Law_at : Cond.static m_Law_at.1 ∈ TB := tq8 130 rfl rfl
theorem st_Law_atByLoops : Cond.static m_Law_atByLoops.1 ∈ TB := tq8 145 rfl rfl
theorem st_Law_prepare : Cond.static m_Law_prepare.1 ∈ TB := tq8 152 rfl rfl
theorem st_Law_planAt : Cond.static m_Law_planAt.1 ∈ TB := tq8 220 rfl rfl
theorem st_Law_view : Cond.static m_Law_view.1 ∈ TB := tq8 227 rfl rfl
theorem st_Law_viewRows : Cond.static m_Law_viewRows.1 ∈ TB := tq9 3 rfl rfl
theorem st_Law_viewAt : Cond.static m_Law_viewAt.1 ∈ TB := tq9 14 rfl rfl
theorem st_Law_viewAnew : Cond.static m_Law_viewAnew.1 ∈ TB := tq9 21 rfl rfl
theorem st_Law_crash : Cond.static m_Law_crash.1 ∈ TB := tq9 28 rfl rfl
theorem st_Law_recordKind : Cond.static m_Law_recordKind.1 ∈ TB := tq9 47 rfl rfl
theorem st_Law_recordOf : Cond.static m_Law_recordOf.1 ∈ TB := tq9 59 rfl rfl
theorem st_Law_recordAt : Cond.static m_Law_recordAt.1 ∈ TB := tq9 67 rfl rfl
theorem d_Law_law_0 : decode code 0 = .ok (.new 8, 3) := by decide +kernel
theorem d_Law_law_3 : decode code 3 = .ok (.dup, 1) := by decide +kernel
theorem d_Law_law_4 : decode code 4 = .ok (.invokespecial 150, 3) := by decide +kernel
theorem d_Law_law_7 : decode code 7 = .ok (.astore_n 1, 1) := by decide +kernel
theorem d_Law_law_8 : decode code 8 = .ok (.new 151, 3) := by decide +kernel
theorem d_Law_law_11 : decode code 11 = .ok (.dup, 1) := by decide +kernel
theorem d_Law_law_12 : decode code 12 = .ok (.invokespecial 153, 3) := by decide +kernel
theorem d_Law_law_15 : decode code 15 = .ok (.astore_n 2, 1) := by decide +kernel
theorem d_Law_law_16 : decode code 16 = .ok (.iconst 1, 1) := by decide +kernel
theorem d_Law_law_17 : decode code 17 = .ok (.newarray .long, 2) := by decide +kernel
theorem d_Law_law_19 : decode code 19 = .ok (.astore_n 3, 1) := by decide +kernel
theorem d_Law_law_20 : decode code 20 = .ok (.iconst 0, 1) := by decide +kernel
theorem d_Law_law_21 : decode code 21 = .ok (.istore 4, 2) := by decide +kernel
theorem d_Law_law_23 : decode code 23 = .ok (.iload 4, 2) := by decide +kernel
theorem d_Law_law_25 : decode code 25 = .ok (.aload_n 0, 1) := by decide +kernel
theorem d_Law_law_26 : decode code 26 = .ok (.arraylength, 1) := by decide +kernel
theorem d_Law_law_27 : decode code 27 = .ok (.bipush 6, 2) := by decide +kernel
theorem d_Law_law_29 : decode code 29 = .ok (.isub, 1) := by decide +kernel
theorem d_Law_law_30 : decode code 30 = .ok (.if_icmp .gt 3205, 3) := by decide +kernel
theorem d_Law_law_33 : decode code 33 = .ok (.aload_n 0, 1) := by decide +kernel
theorem d_Law_law_34 : decode code 34 = .ok (.iload 4, 2) := by decide +kernel
theorem d_Law_law_36 : decode code 36 = .ok (.iaload, 1) := by decide +kernel
theorem d_Law_law_37 : decode code 37 = .ok (.bipush 63, 2) := by decide +kernel
theorem d_Law_law_39 : decode code 39 = .ok (.iand, 1) := by decide +kernel
theorem d_Law_law_40 : decode code 40 = .ok (.tableswitch 3189 0 46 #[204, 260, 352, 424, 528, 584, 640, 708, 812, 892, 948, 1004, 1060, 1116, 1172, 1259, 1351, 1431, 1511, 1567, 1623, 1731, 1839, 1919, 1999, 2055, 2135, 2191, 2204, 2248, 2316, 2384, 2476, 2489, 2545, 2613, 2626, 2682, 2738, 2818, 2898, 2911, 2967, 2980, 2993, 3049, 3105], 204) := by decide +kernel
theorem d_Law_law_244 : decode code 244 = .ok (.aload_n 1, 1) := by decide +kernel
theorem d_Law_law_245 : decode code 245 = .ok (.aload_n 0, 1) := by decide +kernel
theorem d_Law_law_246 : decode code 246 = .ok (.iload 4, 2) := by decide +kernel
theorem d_Law_law_248 : decode code 248 = .ok (.iconst 1, 1) := by decide +kernel
theorem d_Law_law_249 : decode code 249 = .ok (.iadd, 1) := by decide +kernel
theorem d_Law_law_250 : decode code 250 = .ok (.iaload, 1) := by decide +kernel
theorem d_Law_law_251 : decode code 251 = .ok (.aload_n 3, 1) := by decide +kernel
theorem d_Law_law_252 : decode code 252 = .ok (.invokestatic 154, 3) := by decide +kernel
theorem d_Law_law_255 : decode code 255 = .ok (.istore 5, 2) := by decide +kernel
theorem d_Law_law_257 : decode code 257 = .ok (.aload_n 2, 1) := by decide +kernel
theorem d_Law_law_258 : decode code 258 = .ok (.aload_n 0, 1) := by decide +kernel
theorem d_Law_law_259 : decode code 259 = .ok (.iload 4, 2) := by decide +kernel
theorem d_Law_law_261 : decode code 261 = .ok (.iconst 1, 1) := by decide +kernel
theorem d_Law_law_262 : decode code 262 = .ok (.iadd, 1) := by decide +kernel
theorem d_Law_law_263 : decode code 263 = .ok (.iaload, 1) := by decide +kernel
theorem d_Law_law_264 : decode code 264 = .ok (.invokevirtual 159, 3) := by decide +kernel
theorem d_Law_law_267 : decode code 267 = .ok (.istore 6, 2) := by decide +kernel
theorem d_Law_law_269 : decode code 269 = .ok (.aload_n 2, 1) := by decide +kernel
theorem d_Law_law_270 : decode code 270 = .ok (.invokevirtual 160, 3) := by decide +kernel
theorem d_Law_law_273 : decode code 273 = .ok (.iload 5, 2) := by decide +kernel
theorem d_Law_law_275 : decode code 275 = .ok (.if_icmp .eq 5, 3) := by decide +kernel
theorem d_Law_law_278 : decode code 278 = .ok (.iconst 0, 1) := by decide +kernel
theorem d_Law_law_279 : decode code 279 = .ok (.ireturn, 1) := by decide +kernel
theorem d_Law_law_280 : decode code 280 = .ok (.iload 5, 2) := by decide +kernel
theorem d_Law_law_282 : decode code 282 = .ok (.ifCond .ne 15, 3) := by decide +kernel
theorem d_Law_law_285 : decode code 285 = .ok (.aload_n 3, 1) := by decide +kernel
theorem d_Law_law_286 : decode code 286 = .ok (.iconst 0, 1) := by decide +kernel
theorem d_Law_law_287 : decode code 287 = .ok (.laload, 1) := by decide +kernel
theorem d_Law_law_288 : decode code 288 = .ok (.iload 6, 2) := by decide +kernel
theorem d_Law_law_290 : decode code 290 = .ok (.i2l, 1) := by decide +kernel
theorem d_Law_law_291 : decode code 291 = .ok (.lcmp, 1) := by decide +kernel
theorem d_Law_law_292 : decode code 292 = .ok (.ifCond .eq 5, 3) := by decide +kernel
theorem d_Law_law_295 : decode code 295 = .ok (.iconst 0, 1) := by decide +kernel
theorem d_Law_law_296 : decode code 296 = .ok (.ireturn, 1) := by decide +kernel
theorem d_Law_law_297 : decode code 297 = .ok (.goto 2932, 3) := by decide +kernel
theorem d_Law_law_300 : decode code 300 = .ok (.aload_n 1, 1) := by decide +kernel
theorem d_Law_law_301 : decode code 301 = .ok (.aload_n 0, 1) := by decide +kernel
theorem d_Law_law_302 : decode code 302 = .ok (.iload 4, 2) := by decide +kernel
theorem d_Law_law_304 : decode code 304 = .ok (.iconst 1, 1) := by decide +kernel
theorem d_Law_law_305 : decode code 305 = .ok (.iadd, 1) := by decide +kernel
theorem d_Law_law_306 : decode code 306 = .ok (.iaload, 1) := by decide +kernel
theorem d_Law_law_307 : decode code 307 = .ok (.aload_n 0, 1) := by decide +kernel
theorem d_Law_law_308 : decode code 308 = .ok (.iload 4, 2) := by decide +kernel
theorem d_Law_law_310 : decode code 310 = .ok (.iconst 2, 1) := by decide +kernel
theorem d_Law_law_311 : decode code 311 = .ok (.iadd, 1) := by decide +kernel
theorem d_Law_law_312 : decode code 312 = .ok (.iaload, 1) := by decide +kernel
theorem d_Law_law_313 : decode code 313 = .ok (.aload_n 0, 1) := by decide +kernel
theorem d_Law_law_314 : decode code 314 = .ok (.iload 4, 2) := by decide +kernel
theorem d_Law_law_316 : decode code 316 = .ok (.iconst 3, 1) := by decide +kernel
theorem d_Law_law_317 : decode code 317 = .ok (.iadd, 1) := by decide +kernel
theorem d_Law_law_318 : decode code 318 = .ok (.iaload, 1) := by decide +kernel
theorem d_Law_law_319 : decode code 319 = .ok (.aload_n 0, 1) := by decide +kernel
theorem d_Law_law_320 : decode code 320 = .ok (.iload 4, 2) := by decide +kernel
theorem d_Law_law_322 : decode code 322 = .ok (.iconst 4, 1) := by decide +kernel
theorem d_Law_law_323 : decode code 323 = .ok (.iadd, 1) := by decide +kernel
theorem d_Law_law_324 : decode code 324 = .ok (.iaload, 1) := by decide +kernel
theorem d_Law_law_325 : decode code 325 = .ok (.aload_n 3, 1) := by decide +kernel
theorem d_Law_law_326 : decode code 326 = .ok (.invokestatic 163, 3) := by decide +kernel
theorem d_Law_law_329 : decode code 329 = .ok (.istore 5, 2) := by decide +kernel
theorem d_Law_law_331 : decode code 331 = .ok (.aload_n 2, 1) := by decide +kernel
theorem d_Law_law_332 : decode code 332 = .ok (.aload_n 0, 1) := by decide +kernel
theorem d_Law_law_333 : decode code 333 = .ok (.iload 4, 2) := by decide +kernel
theorem d_Law_law_335 : decode code 335 = .ok (.iconst 1, 1) := by decide +kernel
theorem d_Law_law_336 : decode code 336 = .ok (.iadd, 1) := by decide +kernel
theorem d_Law_law_337 : decode code 337 = .ok (.iaload, 1) := by decide +kernel
theorem d_Law_law_338 : decode code 338 = .ok (.aload_n 0, 1) := by decide +kernel
theorem d_Law_law_339 : decode code 339 = .ok (.iload 4, 2) := by decide +kernel
theorem d_Law_law_341 : decode code 341 = .ok (.iconst 2, 1) := by decide +kernel
theorem d_Law_law_342 : decode code 342 = .ok (.iadd, 1) := by decide +kernel
theorem d_Law_law_343 : decode code 343 = .ok (.iaload, 1) := by decide +kernel
theorem d_Law_law_344 : decode code 344 = .ok (.aload_n 0, 1) := by decide +kernel
theorem d_Law_law_345 : decode code 345 = .ok (.iload 4, 2) := by decide +kernel
theorem d_Law_law_347 : decode code 347 = .ok (.iconst 3, 1) := by decide +kernel
theorem d_Law_law_348 : decode code 348 = .ok (.iadd, 1) := by decide +kernel
theorem d_Law_law_349 : decode code 349 = .ok (.iaload, 1) := by decide +kernel
theorem d_Law_law_350 : decode code 350 = .ok (.aload_n 0, 1) := by decide +kernel
theorem d_Law_law_351 : decode code 351 = .ok (.iload 4, 2) := by decide +kernel
theorem d_Law_law_353 : decode code 353 = .ok (.iconst 4, 1) := by decide +kernel
theorem d_Law_law_354 : decode code 354 = .ok (.iadd, 1) := by decide +kernel
theorem d_Law_law_355 : decode code 355 = .ok (.iaload, 1) := by decide +kernel
theorem d_Law_law_356 : decode code 356 = .ok (.invokevirtual 166, 3) := by decide +kernel
theorem d_Law_law_359 : decode code 359 = .ok (.istore 6, 2) := by decide +kernel
theorem d_Law_law_361 : decode code 361 = .ok (.aload_n 2, 1) := by decide +kernel
theorem d_Law_law_362 : decode code 362 = .ok (.invokevirtual 160, 3) := by decide +kernel
theorem d_Law_law_365 : decode code 365 = .ok (.iload 5, 2) := by decide +kernel
theorem d_Law_law_367 : decode code 367 = .ok (.if_icmp .eq 5, 3) := by decide +kernel
theorem d_Law_law_370 : decode code 370 = .ok (.iconst 0, 1) := by decide +kernel
theorem d_Law_law_371 : decode code 371 = .ok (.ireturn, 1) := by decide +kernel
theorem d_Law_law_372 : decode code 372 = .ok (.iload 5, 2) := by decide +kernel
theorem d_Law_law_374 : decode code 374 = .ok (.ifCond .ne 15, 3) := by decide +kernel
theorem d_Law_law_377 : decode code 377 = .ok (.aload_n 3, 1) := by decide +kernel
theorem d_Law_law_378 : decode code 378 = .ok (.iconst 0, 1) := by decide +kernel
theorem d_Law_law_379 : decode code 379 = .ok (.laload, 1) := by decide +kernel
theorem d_Law_law_380 : decode code 380 = .ok (.iload 6, 2) := by decide +kernel
theorem d_Law_law_382 : decode code 382 = .ok (.i2l, 1) := by decide +kernel
theorem d_Law_law_383 : decode code 383 = .ok (.lcmp, 1) := by decide +kernel
theorem d_Law_law_384 : decode code 384 = .ok (.ifCond .eq 5, 3) := by decide +kernel
theorem d_Law_law_387 : decode code 387 = .ok (.iconst 0, 1) := by decide +kernel
theorem d_Law_law_388 : decode code 388 = .ok (.ireturn, 1) := by decide +kernel
theorem d_Law_law_389 : decode code 389 = .ok (.goto 2840, 3) := by decide +kernel
theorem d_Law_law_392 : decode code 392 = .ok (.aload_n 1, 1) := by decide +kernel
theorem d_Law_law_393 : decode code 393 = .ok (.aload_n 0, 1) := by decide +kernel
theorem d_Law_law_394 : decode code 394 = .ok (.iload 4, 2) := by decide +kernel
theorem d_Law_law_396 : decode code 396 = .ok (.iconst 1, 1) := by decide +kernel
theorem d_Law_law_397 : decode code 397 = .ok (.iadd, 1) := by decide +kernel
theorem d_Law_law_398 : decode code 398 = .ok (.iaload, 1) := by decide +kernel
theorem d_Law_law_399 : decode code 399 = .ok (.aload_n 0, 1) := by decide +kernel
theorem d_Law_law_400 : decode code 400 = .ok (.iload 4, 2) := by decide +kernel
theorem d_Law_law_402 : decode code 402 = .ok (.iconst 2, 1) := by decide +kernel
theorem d_Law_law_403 : decode code 403 = .ok (.iadd, 1) := by decide +kernel
theorem d_Law_law_404 : decode code 404 = .ok (.iaload, 1) := by decide +kernel
theorem d_Law_law_405 : decode code 405 = .ok (.aload_n 0, 1) := by decide +kernel
theorem d_Law_law_406 : decode code 406 = .ok (.iload 4, 2) := by decide +kernel
theorem d_Law_law_408 : decode code 408 = .ok (.iconst 3, 1) := by decide +kernel
theorem d_Law_law_409 : decode code 409 = .ok (.iadd, 1) := by decide +kernel
theorem d_Law_law_410 : decode code 410 = .ok (.iaload, 1) := by decide +kernel
theorem d_Law_law_411 : decode code 411 = .ok (.aload_n 0, 1) := by decide +kernel
theorem d_Law_law_412 : decode code 412 = .ok (.iload 4, 2) := by decide +kernel
theorem d_Law_law_414 : decode code 414 = .ok (.iconst 4, 1) := by decide +kernel
theorem d_Law_law_415 : decode code 415 = .ok (.iadd, 1) := by decide +kernel
theorem d_Law_law_416 : decode code 416 = .ok (.iaload, 1) := by decide +kernel
theorem d_Law_law_417 : decode code 417 = .ok (.invokestatic 167, 3) := by decide +kernel
theorem d_Law_law_420 : decode code 420 = .ok (.istore 5, 2) := by decide +kernel
theorem d_Law_law_422 : decode code 422 = .ok (.aload_n 2, 1) := by decide +kernel
theorem d_Law_law_423 : decode code 423 = .ok (.aload_n 0, 1) := by decide +kernel
theorem d_Law_law_424 : decode code 424 = .ok (.iload 4, 2) := by decide +kernel
theorem d_Law_law_426 : decode code 426 = .ok (.iconst 1, 1) := by decide +kernel
theorem d_Law_law_427 : decode code 427 = .ok (.iadd, 1) := by decide +kernel
theorem d_Law_law_428 : decode code 428 = .ok (.iaload, 1) := by decide +kernel
theorem d_Law_law_429 : decode code 429 = .ok (.aload_n 0, 1) := by decide +kernel
theorem d_Law_law_430 : decode code 430 = .ok (.iload 4, 2) := by decide +kernel
theorem d_Law_law_432 : decode code 432 = .ok (.iconst 2, 1) := by decide +kernel
theorem d_Law_law_433 : decode code 433 = .ok (.iadd, 1) := by decide +kernel
theorem d_Law_law_434 : decode code 434 = .ok (.iaload, 1) := by decide +kernel
theorem d_Law_law_435 : decode code 435 = .ok (.aload_n 0, 1) := by decide +kernel
theorem d_Law_law_436 : decode code 436 = .ok (.iload 4, 2) := by decide +kernel
theorem d_Law_law_438 : decode code 438 = .ok (.iconst 3, 1) := by decide +kernel
theorem d_Law_law_439 : decode code 439 = .ok (.iadd, 1) := by decide +kernel
theorem d_Law_law_440 : decode code 440 = .ok (.iaload, 1) := by decide +kernel
theorem d_Law_law_441 : decode code 441 = .ok (.aload_n 0, 1) := by decide +kernel
theorem d_Law_law_442 : decode code 442 = .ok (.iload 4, 2) := by decide +kernel
theorem d_Law_law_444 : decode code 444 = .ok (.iconst 4, 1) := by decide +kernel
theorem d_Law_law_445 : decode code 445 = .ok (.iadd, 1) := by decide +kernel
theorem d_Law_law_446 : decode code 446 = .ok (.iaload, 1) := by decide +kernel
theorem d_Law_law_447 : decode code 447 = .ok (.invokevirtual 170, 3) := by decide +kernel
theorem d_Law_law_450 : decode code 450 = .ok (.aload_n 2, 1) := by decide +kernel
theorem d_Law_law_451 : decode code 451 = .ok (.invokevirtual 160, 3) := by decide +kernel
theorem d_Law_law_454 : decode code 454 = .ok (.iload 5, 2) := by decide +kernel
theorem d_Law_law_456 : decode code 456 = .ok (.if_icmp .eq 5, 3) := by decide +kernel
theorem d_Law_law_459 : decode code 459 = .ok (.iconst 0, 1) := by decide +kernel
theorem d_Law_law_460 : decode code 460 = .ok (.ireturn, 1) := by decide +kernel
theorem d_Law_law_461 : decode code 461 = .ok (.goto 2768, 3) := by decide +kernel
theorem d_Law_law_464 : decode code 464 = .ok (.aload_n 1, 1) := by decide +kernel
theorem d_Law_law_465 : decode code 465 = .ok (.aload_n 0, 1) := by decide +kernel
theorem d_Law_law_466 : decode code 466 = .ok (.iload 4, 2) := by decide +kernel
theorem d_Law_law_468 : decode code 468 = .ok (.iconst 1, 1) := by decide +kernel
theorem d_Law_law_469 : decode code 469 = .ok (.iadd, 1) := by decide +kernel
theorem d_Law_law_470 : decode code 470 = .ok (.iaload, 1) := by decide +kernel
theorem d_Law_law_471 : decode code 471 = .ok (.aload_n 0, 1) := by decide +kernel
theorem d_Law_law_472 : decode code 472 = .ok (.iload 4, 2) := by decide +kernel
theorem d_Law_law_474 : decode code 474 = .ok (.iconst 2, 1) := by decide +kernel
theorem d_Law_law_475 : decode code 475 = .ok (.iadd, 1) := by decide +kernel
theorem d_Law_law_476 : decode code 476 = .ok (.iaload, 1) := by decide +kernel
theorem d_Law_law_477 : decode code 477 = .ok (.aload_n 0, 1) := by decide +kernel
theorem d_Law_law_478 : decode code 478 = .ok (.iload 4, 2) := by decide +kernel
theorem d_Law_law_480 : decode code 480 = .ok (.iconst 3, 1) := by decide +kernel
theorem d_Law_law_481 : decode code 481 = .ok (.iadd, 1) := by decide +kernel
theorem d_Law_law_482 : decode code 482 = .ok (.iaload, 1) := by decide +kernel
theorem d_Law_law_483 : decode code 483 = .ok (.aload_n 0, 1) := by decide +kernel
theorem d_Law_law_484 : decode code 484 = .ok (.iload 4, 2) := by decide +kernel
theorem d_Law_law_486 : decode code 486 = .ok (.iconst 4, 1) := by decide +kernel
theorem d_Law_law_487 : decode code 487 = .ok (.iadd, 1) := by decide +kernel
theorem d_Law_law_488 : decode code 488 = .ok (.iaload, 1) := by decide +kernel
theorem d_Law_law_489 : decode code 489 = .ok (.aload_n 0, 1) := by decide +kernel
theorem d_Law_law_490 : decode code 490 = .ok (.iload 4, 2) := by decide +kernel
theorem d_Law_law_492 : decode code 492 = .ok (.iconst 5, 1) := by decide +kernel
theorem d_Law_law_493 : decode code 493 = .ok (.iadd, 1) := by decide +kernel
theorem d_Law_law_494 : decode code 494 = .ok (.iaload, 1) := by decide +kernel
theorem d_Law_law_495 : decode code 495 = .ok (.aload_n 3, 1) := by decide +kernel
theorem d_Law_law_496 : decode code 496 = .ok (.invokestatic 171, 3) := by decide +kernel
theorem d_Law_law_499 : decode code 499 = .ok (.istore 5, 2) := by decide +kernel
theorem d_Law_law_501 : decode code 501 = .ok (.aload_n 2, 1) := by decide +kernel
theorem d_Law_law_502 : decode code 502 = .ok (.aload_n 0, 1) := by decide +kernel
theorem d_Law_law_503 : decode code 503 = .ok (.iload 4, 2) := by decide +kernel
theorem d_Law_law_505 : decode code 505 = .ok (.iconst 1, 1) := by decide +kernel
theorem d_Law_law_506 : decode code 506 = .ok (.iadd, 1) := by decide +kernel
theorem d_Law_law_507 : decode code 507 = .ok (.iaload, 1) := by decide +kernel
theorem d_Law_law_508 : decode code 508 = .ok (.aload_n 0, 1) := by decide +kernel
theorem d_Law_law_509 : decode code 509 = .ok (.iload 4, 2) := by decide +kernel
theorem d_Law_law_511 : decode code 511 = .ok (.iconst 2, 1) := by decide +kernel
theorem d_Law_law_512 : decode code 512 = .ok (.iadd, 1) := by decide +kernel
theorem d_Law_law_513 : decode code 513 = .ok (.iaload, 1) := by decide +kernel
theorem d_Law_law_514 : decode code 514 = .ok (.aload_n 0, 1) := by decide +kernel
theorem d_Law_law_515 : decode code 515 = .ok (.iload 4, 2) := by decide +kernel
theorem d_Law_law_517 : decode code 517 = .ok (.iconst 3, 1) := by decide +kernel
theorem d_Law_law_518 : decode code 518 = .ok (.iadd, 1) := by decide +kernel
theorem d_Law_law_519 : decode code 519 = .ok (.iaload, 1) := by decide +kernel
theorem d_Law_law_520 : decode code 520 = .ok (.aload_n 0, 1) := by decide +kernel
theorem d_Law_law_521 : decode code 521 = .ok (.iload 4, 2) := by decide +kernel
theorem d_Law_law_523 : decode code 523 = .ok (.iconst 4, 1) := by decide +kernel
theorem d_Law_law_524 : decode code 524 = .ok (.iadd, 1) := by decide +kernel
theorem d_Law_law_525 : decode code 525 = .ok (.iaload, 1) := by decide +kernel
theorem d_Law_law_526 : decode code 526 = .ok (.aload_n 0, 1) := by decide +kernel
theorem d_Law_law_527 : decode code 527 = .ok (.iload 4, 2) := by decide +kernel
theorem d_Law_law_529 : decode code 529 = .ok (.iconst 5, 1) := by decide +kernel
theorem d_Law_law_530 : decode code 530 = .ok (.iadd, 1) := by decide +kernel
theorem d_Law_law_531 : decode code 531 = .ok (.iaload, 1) := by decide +kernel
theorem d_Law_law_532 : decode code 532 = .ok (.invokevirtual 174, 3) := by decide +kernel
theorem d_Law_law_535 : decode code 535 = .ok (.istore 6, 2) := by decide +kernel
theorem d_Law_law_537 : decode code 537 = .ok (.aload_n 2, 1) := by decide +kernel
theorem d_Law_law_538 : decode code 538 = .ok (.invokevirtual 160, 3) := by decide +kernel
theorem d_Law_law_541 : decode code 541 = .ok (.iload 5, 2) := by decide +kernel
theorem d_Law_law_543 : decode code 543 = .ok (.if_icmp .eq 5, 3) := by decide +kernel
theorem d_Law_law_546 : decode code 546 = .ok (.iconst 0, 1) := by decide +kernel
theorem d_Law_law_547 : decode code 547 = .ok (.ireturn, 1) := by decide +kernel
theorem d_Law_law_548 : decode code 548 = .ok (.iload 5, 2) := by decide +kernel
theorem d_Law_law_550 : decode code 550 = .ok (.ifCond .ne 15, 3) := by decide +kernel
theorem d_Law_law_553 : decode code 553 = .ok (.aload_n 3, 1) := by decide +kernel
theorem d_Law_law_554 : decode code 554 = .ok (.iconst 0, 1) := by decide +kernel
theorem d_Law_law_555 : decode code 555 = .ok (.laload, 1) := by decide +kernel
theorem d_Law_law_556 : decode code 556 = .ok (.iload 6, 2) := by decide +kernel
theorem d_Law_law_558 : decode code 558 = .ok (.i2l, 1) := by decide +kernel
theorem d_Law_law_559 : decode code 559 = .ok (.lcmp, 1) := by decide +kernel
theorem d_Law_law_560 : decode code 560 = .ok (.ifCond .eq 5, 3) := by decide +kernel
theorem d_Law_law_563 : decode code 563 = .ok (.iconst 0, 1) := by decide +kernel
theorem d_Law_law_564 : decode code 564 = .ok (.ireturn, 1) := by decide +kernel
theorem d_Law_law_565 : decode code 565 = .ok (.goto 2664, 3) := by decide +kernel
theorem d_Law_law_568 : decode code 568 = .ok (.aload_n 1, 1) := by decide +kernel
theorem d_Law_law_569 : decode code 569 = .ok (.aload_n 0, 1) := by decide +kernel
theorem d_Law_law_570 : decode code 570 = .ok (.iload 4, 2) := by decide +kernel
theorem d_Law_law_572 : decode code 572 = .ok (.iconst 1, 1) := by decide +kernel
theorem d_Law_law_573 : decode code 573 = .ok (.iadd, 1) := by decide +kernel
theorem d_Law_law_574 : decode code 574 = .ok (.iaload, 1) := by decide +kernel
theorem d_Law_law_575 : decode code 575 = .ok (.aload_n 3, 1) := by decide +kernel
theorem d_Law_law_576 : decode code 576 = .ok (.invokestatic 175, 3) := by decide +kernel
theorem d_Law_law_579 : decode code 579 = .ok (.istore 5, 2) := by decide +kernel
theorem d_Law_law_581 : decode code 581 = .ok (.aload_n 2, 1) := by decide +kernel
theorem d_Law_law_582 : decode code 582 = .ok (.aload_n 0, 1) := by decide +kernel
theorem d_Law_law_583 : decode code 583 = .ok (.iload 4, 2) := by decide +kernel
theorem d_Law_law_585 : decode code 585 = .ok (.iconst 1, 1) := by decide +kernel
theorem d_Law_law_586 : decode code 586 = .ok (.iadd, 1) := by decide +kernel
theorem d_Law_law_587 : decode code 587 = .ok (.iaload, 1) := by decide +kernel
theorem d_Law_law_588 : decode code 588 = .ok (.invokevirtual 177, 3) := by decide +kernel
theorem d_Law_law_591 : decode code 591 = .ok (.istore 6, 2) := by decide +kernel
theorem d_Law_law_593 : decode code 593 = .ok (.aload_n 2, 1) := by decide +kernel
theorem d_Law_law_594 : decode code 594 = .ok (.invokevirtual 160, 3) := by decide +kernel
theorem d_Law_law_597 : decode code 597 = .ok (.iload 5, 2) := by decide +kernel
theorem d_Law_law_599 : decode code 599 = .ok (.if_icmp .eq 5, 3) := by decide +kernel
theorem d_Law_law_602 : decode code 602 = .ok (.iconst 0, 1) := by decide +kernel
theorem d_Law_law_603 : decode code 603 = .ok (.ireturn, 1) := by decide +kernel
theorem d_Law_law_604 : decode code 604 = .ok (.iload 5, 2) := by decide +kernel
theorem d_Law_law_606 : decode code 606 = .ok (.ifCond .ne 15, 3) := by decide +kernel
theorem d_Law_law_609 : decode code 609 = .ok (.aload_n 3, 1) := by decide +kernel
theorem d_Law_law_610 : decode code 610 = .ok (.iconst 0, 1) := by decide +kernel
theorem d_Law_law_611 : decode code 611 = .ok (.laload, 1) := by decide +kernel
theorem d_Law_law_612 : decode code 612 = .ok (.iload 6, 2) := by decide +kernel
theorem d_Law_law_614 : decode code 614 = .ok (.i2l, 1) := by decide +kernel
theorem d_Law_law_615 : decode code 615 = .ok (.lcmp, 1) := by decide +kernel
theorem d_Law_law_616 : decode code 616 = .ok (.ifCond .eq 5, 3) := by decide +kernel
theorem d_Law_law_619 : decode code 619 = .ok (.iconst 0, 1) := by decide +kernel
theorem d_Law_law_620 : decode code 620 = .ok (.ireturn, 1) := by decide +kernel
theorem d_Law_law_621 : decode code 621 = .ok (.goto 2608, 3) := by decide +kernel
theorem d_Law_law_624 : decode code 624 = .ok (.aload_n 1, 1) := by decide +kernel
theorem d_Law_law_625 : decode code 625 = .ok (.aload_n 0, 1) := by decide +kernel
theorem d_Law_law_626 : decode code 626 = .ok (.iload 4, 2) := by decide +kernel
theorem d_Law_law_628 : decode code 628 = .ok (.iconst 1, 1) := by decide +kernel
theorem d_Law_law_629 : decode code 629 = .ok (.iadd, 1) := by decide +kernel
theorem d_Law_law_630 : decode code 630 = .ok (.iaload, 1) := by decide +kernel
theorem d_Law_law_631 : decode code 631 = .ok (.aload_n 3, 1) := by decide +kernel
theorem d_Law_law_632 : decode code 632 = .ok (.invokestatic 178, 3) := by decide +kernel
theorem d_Law_law_635 : decode code 635 = .ok (.istore 5, 2) := by decide +kernel
theorem d_Law_law_637 : decode code 637 = .ok (.aload_n 2, 1) := by decide +kernel
theorem d_Law_law_638 : decode code 638 = .ok (.aload_n 0, 1) := by decide +kernel
theorem d_Law_law_639 : decode code 639 = .ok (.iload 4, 2) := by decide +kernel
theorem d_Law_law_641 : decode code 641 = .ok (.iconst 1, 1) := by decide +kernel
theorem d_Law_law_642 : decode code 642 = .ok (.iadd, 1) := by decide +kernel
theorem d_Law_law_643 : decode code 643 = .ok (.iaload, 1) := by decide +kernel
theorem d_Law_law_644 : decode code 644 = .ok (.invokevirtual 180, 3) := by decide +kernel
theorem d_Law_law_647 : decode code 647 = .ok (.istore 6, 2) := by decide +kernel
theorem d_Law_law_649 : decode code 649 = .ok (.aload_n 2, 1) := by decide +kernel
theorem d_Law_law_650 : decode code 650 = .ok (.invokevirtual 160, 3) := by decide +kernel
theorem d_Law_law_653 : decode code 653 = .ok (.iload 5, 2) := by decide +kernel
theorem d_Law_law_655 : decode code 655 = .ok (.if_icmp .eq 5, 3) := by decide +kernel
theorem d_Law_law_658 : decode code 658 = .ok (.iconst 0, 1) := by decide +kernel
theorem d_Law_law_659 : decode code 659 = .ok (.ireturn, 1) := by decide +kernel
theorem d_Law_law_660 : decode code 660 = .ok (.iload 5, 2) := by decide +kernel
theorem d_Law_law_662 : decode code 662 = .ok (.ifCond .ne 15, 3) := by decide +kernel
theorem d_Law_law_665 : decode code 665 = .ok (.aload_n 3, 1) := by decide +kernel
theorem d_Law_law_666 : decode code 666 = .ok (.iconst 0, 1) := by decide +kernel
theorem d_Law_law_667 : decode code 667 = .ok (.laload, 1) := by decide +kernel
theorem d_Law_law_668 : decode code 668 = .ok (.iload 6, 2) := by decide +kernel
theorem d_Law_law_670 : decode code 670 = .ok (.i2l, 1) := by decide +kernel
theorem d_Law_law_671 : decode code 671 = .ok (.lcmp, 1) := by decide +kernel
theorem d_Law_law_672 : decode code 672 = .ok (.ifCond .eq 5, 3) := by decide +kernel
theorem d_Law_law_675 : decode code 675 = .ok (.iconst 0, 1) := by decide +kernel
theorem d_Law_law_676 : decode code 676 = .ok (.ireturn, 1) := by decide +kernel
theorem d_Law_law_677 : decode code 677 = .ok (.goto 2552, 3) := by decide +kernel
theorem d_Law_law_680 : decode code 680 = .ok (.aload_n 1, 1) := by decide +kernel
theorem d_Law_law_681 : decode code 681 = .ok (.aload_n 0, 1) := by decide +kernel
theorem d_Law_law_682 : decode code 682 = .ok (.iload 4, 2) := by decide +kernel
theorem d_Law_law_684 : decode code 684 = .ok (.iconst 1, 1) := by decide +kernel
theorem d_Law_law_685 : decode code 685 = .ok (.iadd, 1) := by decide +kernel
theorem d_Law_law_686 : decode code 686 = .ok (.iaload, 1) := by decide +kernel
theorem d_Law_law_687 : decode code 687 = .ok (.aload_n 0, 1) := by decide +kernel
theorem d_Law_law_688 : decode code 688 = .ok (.iload 4, 2) := by decide +kernel
theorem d_Law_law_690 : decode code 690 = .ok (.iconst 2, 1) := by decide +kernel
theorem d_Law_law_691 : decode code 691 = .ok (.iadd, 1) := by decide +kernel
theorem d_Law_law_692 : decode code 692 = .ok (.iaload, 1) := by decide +kernel
theorem d_Law_law_693 : decode code 693 = .ok (.aload_n 3, 1) := by decide +kernel
theorem d_Law_law_694 : decode code 694 = .ok (.invokestatic 181, 3) := by decide +kernel
theorem d_Law_law_697 : decode code 697 = .ok (.istore 5, 2) := by decide +kernel
theorem d_Law_law_699 : decode code 699 = .ok (.aload_n 2, 1) := by decide +kernel
theorem d_Law_law_700 : decode code 700 = .ok (.aload_n 0, 1) := by decide +kernel
theorem d_Law_law_701 : decode code 701 = .ok (.iload 4, 2) := by decide +kernel
theorem d_Law_law_703 : decode code 703 = .ok (.iconst 1, 1) := by decide +kernel
theorem d_Law_law_704 : decode code 704 = .ok (.iadd, 1) := by decide +kernel
theorem d_Law_law_705 : decode code 705 = .ok (.iaload, 1) := by decide +kernel
theorem d_Law_law_706 : decode code 706 = .ok (.aload_n 0, 1) := by decide +kernel
theorem d_Law_law_707 : decode code 707 = .ok (.iload 4, 2) := by decide +kernel
theorem d_Law_law_709 : decode code 709 = .ok (.iconst 2, 1) := by decide +kernel
theorem d_Law_law_710 : decode code 710 = .ok (.iadd, 1) := by decide +kernel
theorem d_Law_law_711 : decode code 711 = .ok (.iaload, 1) := by decide +kernel
theorem d_Law_law_712 : decode code 712 = .ok (.invokevirtual 184, 3) := by decide +kernel
theorem d_Law_law_715 : decode code 715 = .ok (.istore 6, 2) := by decide +kernel
theorem d_Law_law_717 : decode code 717 = .ok (.aload_n 2, 1) := by decide +kernel
theorem d_Law_law_718 : decode code 718 = .ok (.invokevirtual 160, 3) := by decide +kernel
theorem d_Law_law_721 : decode code 721 = .ok (.iload 5, 2) := by decide +kernel
theorem d_Law_law_723 : decode code 723 = .ok (.if_icmp .eq 5, 3) := by decide +kernel
theorem d_Law_law_726 : decode code 726 = .ok (.iconst 0, 1) := by decide +kernel
theorem d_Law_law_727 : decode code 727 = .ok (.ireturn, 1) := by decide +kernel
theorem d_Law_law_728 : decode code 728 = .ok (.iload 5, 2) := by decide +kernel
theorem d_Law_law_730 : decode code 730 = .ok (.ifCond .ne 15, 3) := by decide +kernel
theorem d_Law_law_733 : decode code 733 = .ok (.aload_n 3, 1) := by decide +kernel
theorem d_Law_law_734 : decode code 734 = .ok (.iconst 0, 1) := by decide +kernel
theorem d_Law_law_735 : decode code 735 = .ok (.laload, 1) := by decide +kernel
theorem d_Law_law_736 : decode code 736 = .ok (.iload 6, 2) := by decide +kernel
theorem d_Law_law_738 : decode code 738 = .ok (.i2l, 1) := by decide +kernel
theorem d_Law_law_739 : decode code 739 = .ok (.lcmp, 1) := by decide +kernel
theorem d_Law_law_740 : decode code 740 = .ok (.ifCond .eq 5, 3) := by decide +kernel
theorem d_Law_law_743 : decode code 743 = .ok (.iconst 0, 1) := by decide +kernel
theorem d_Law_law_744 : decode code 744 = .ok (.ireturn, 1) := by decide +kernel
theorem d_Law_law_745 : decode code 745 = .ok (.goto 2484, 3) := by decide +kernel
theorem d_Law_law_748 : decode code 748 = .ok (.aload_n 1, 1) := by decide +kernel
theorem d_Law_law_749 : decode code 749 = .ok (.aload_n 0, 1) := by decide +kernel
theorem d_Law_law_750 : decode code 750 = .ok (.iload 4, 2) := by decide +kernel
theorem d_Law_law_752 : decode code 752 = .ok (.iconst 1, 1) := by decide +kernel
theorem d_Law_law_753 : decode code 753 = .ok (.iadd, 1) := by decide +kernel
theorem d_Law_law_754 : decode code 754 = .ok (.iaload, 1) := by decide +kernel
theorem d_Law_law_755 : decode code 755 = .ok (.aload_n 0, 1) := by decide +kernel
theorem d_Law_law_756 : decode code 756 = .ok (.iload 4, 2) := by decide +kernel
theorem d_Law_law_758 : decode code 758 = .ok (.iconst 2, 1) := by decide +kernel
theorem d_Law_law_759 : decode code 759 = .ok (.iadd, 1) := by decide +kernel
theorem d_Law_law_760 : decode code 760 = .ok (.iaload, 1) := by decide +kernel
theorem d_Law_law_761 : decode code 761 = .ok (.aload_n 0, 1) := by decide +kernel
theorem d_Law_law_762 : decode code 762 = .ok (.iload 4, 2) := by decide +kernel
theorem d_Law_law_764 : decode code 764 = .ok (.iconst 3, 1) := by decide +kernel
theorem d_Law_law_765 : decode code 765 = .ok (.iadd, 1) := by decide +kernel
theorem d_Law_law_766 : decode code 766 = .ok (.iaload, 1) := by decide +kernel
theorem d_Law_law_767 : decode code 767 = .ok (.aload_n 0, 1) := by decide +kernel
theorem d_Law_law_768 : decode code 768 = .ok (.iload 4, 2) := by decide +kernel
theorem d_Law_law_770 : decode code 770 = .ok (.iconst 4, 1) := by decide +kernel
theorem d_Law_law_771 : decode code 771 = .ok (.iadd, 1) := by decide +kernel
theorem d_Law_law_772 : decode code 772 = .ok (.iaload, 1) := by decide +kernel
theorem d_Law_law_773 : decode code 773 = .ok (.aload_n 0, 1) := by decide +kernel
theorem d_Law_law_774 : decode code 774 = .ok (.iload 4, 2) := by decide +kernel
theorem d_Law_law_776 : decode code 776 = .ok (.iconst 5, 1) := by decide +kernel
theorem d_Law_law_777 : decode code 777 = .ok (.iadd, 1) := by decide +kernel
theorem d_Law_law_778 : decode code 778 = .ok (.iaload, 1) := by decide +kernel
theorem d_Law_law_779 : decode code 779 = .ok (.aload_n 3, 1) := by decide +kernel
theorem d_Law_law_780 : decode code 780 = .ok (.invokestatic 185, 3) := by decide +kernel
theorem d_Law_law_783 : decode code 783 = .ok (.istore 5, 2) := by decide +kernel
theorem d_Law_law_785 : decode code 785 = .ok (.aload_n 2, 1) := by decide +kernel
theorem d_Law_law_786 : decode code 786 = .ok (.aload_n 0, 1) := by decide +kernel
theorem d_Law_law_787 : decode code 787 = .ok (.iload 4, 2) := by decide +kernel
theorem d_Law_law_789 : decode code 789 = .ok (.iconst 1, 1) := by decide +kernel
theorem d_Law_law_790 : decode code 790 = .ok (.iadd, 1) := by decide +kernel
theorem d_Law_law_791 : decode code 791 = .ok (.iaload, 1) := by decide +kernel
theorem d_Law_law_792 : decode code 792 = .ok (.aload_n 0, 1) := by decide +kernel
theorem d_Law_law_793 : decode code 793 = .ok (.iload 4, 2) := by decide +kernel
theorem d_Law_law_795 : decode code 795 = .ok (.iconst 2, 1) := by decide +kernel
theorem d_Law_law_796 : decode code 796 = .ok (.iadd, 1) := by decide +kernel
theorem d_Law_law_797 : decode code 797 = .ok (.iaload, 1) := by decide +kernel
theorem d_Law_law_798 : decode code 798 = .ok (.aload_n 0, 1) := by decide +kernel
theorem d_Law_law_799 : decode code 799 = .ok (.iload 4, 2) := by decide +kernel
theorem d_Law_law_801 : decode code 801 = .ok (.iconst 3, 1) := by decide +kernel
theorem d_Law_law_802 : decode code 802 = .ok (.iadd, 1) := by decide +kernel
theorem d_Law_law_803 : decode code 803 = .ok (.iaload, 1) := by decide +kernel
theorem d_Law_law_804 : decode code 804 = .ok (.aload_n 0, 1) := by decide +kernel
theorem d_Law_law_805 : decode code 805 = .ok (.iload 4, 2) := by decide +kernel
theorem d_Law_law_807 : decode code 807 = .ok (.iconst 4, 1) := by decide +kernel
theorem d_Law_law_808 : decode code 808 = .ok (.iadd, 1) := by decide +kernel
theorem d_Law_law_809 : decode code 809 = .ok (.iaload, 1) := by decide +kernel
theorem d_Law_law_810 : decode code 810 = .ok (.aload_n 0, 1) := by decide +kernel
theorem d_Law_law_811 : decode code 811 = .ok (.iload 4, 2) := by decide +kernel
theorem d_Law_law_813 : decode code 813 = .ok (.iconst 5, 1) := by decide +kernel
theorem d_Law_law_814 : decode code 814 = .ok (.iadd, 1) := by decide +kernel
theorem d_Law_law_815 : decode code 815 = .ok (.iaload, 1) := by decide +kernel
theorem d_Law_law_816 : decode code 816 = .ok (.invokevirtual 187, 3) := by decide +kernel
theorem d_Law_law_819 : decode code 819 = .ok (.istore 6, 2) := by decide +kernel
theorem d_Law_law_821 : decode code 821 = .ok (.aload_n 2, 1) := by decide +kernel
theorem d_Law_law_822 : decode code 822 = .ok (.invokevirtual 160, 3) := by decide +kernel
theorem d_Law_law_825 : decode code 825 = .ok (.iload 5, 2) := by decide +kernel
theorem d_Law_law_827 : decode code 827 = .ok (.if_icmp .eq 5, 3) := by decide +kernel
theorem d_Law_law_830 : decode code 830 = .ok (.iconst 0, 1) := by decide +kernel
theorem d_Law_law_831 : decode code 831 = .ok (.ireturn, 1) := by decide +kernel
theorem d_Law_law_832 : decode code 832 = .ok (.iload 5, 2) := by decide +kernel
theorem d_Law_law_834 : decode code 834 = .ok (.ifCond .ne 15, 3) := by decide +kernel
theorem d_Law_law_837 : decode code 837 = .ok (.aload_n 3, 1) := by decide +kernel
theorem d_Law_law_838 : decode code 838 = .ok (.iconst 0, 1) := by decide +kernel
theorem d_Law_law_839 : decode code 839 = .ok (.laload, 1) := by decide +kernel
theorem d_Law_law_840 : decode code 840 = .ok (.iload 6, 2) := by decide +kernel
theorem d_Law_law_842 : decode code 842 = .ok (.i2l, 1) := by decide +kernel
theorem d_Law_law_843 : decode code 843 = .ok (.lcmp, 1) := by decide +kernel
theorem d_Law_law_844 : decode code 844 = .ok (.ifCond .eq 5, 3) := by decide +kernel
theorem d_Law_law_847 : decode code 847 = .ok (.iconst 0, 1) := by decide +kernel
theorem d_Law_law_848 : decode code 848 = .ok (.ireturn, 1) := by decide +kernel
theorem d_Law_law_849 : decode code 849 = .ok (.goto 2380, 3) := by decide +kernel
theorem d_Law_law_852 : decode code 852 = .ok (.aload_n 1, 1) := by decide +kernel
theorem d_Law_law_853 : decode code 853 = .ok (.aload_n 0, 1) := by decide +kernel
theorem d_Law_law_854 : decode code 854 = .ok (.iload 4, 2) := by decide +kernel
theorem d_Law_law_856 : decode code 856 = .ok (.iconst 1, 1) := by decide +kernel
theorem d_Law_law_857 : decode code 857 = .ok (.iadd, 1) := by decide +kernel
theorem d_Law_law_858 : decode code 858 = .ok (.iaload, 1) := by decide +kernel
theorem d_Law_law_859 : decode code 859 = .ok (.aload_n 0, 1) := by decide +kernel
theorem d_Law_law_860 : decode code 860 = .ok (.iload 4, 2) := by decide +kernel
