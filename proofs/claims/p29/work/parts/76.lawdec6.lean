/-! ===== by program (wip/p29/lawdec.py): the law's instructions ===== -/
theorem dL_holds_265 : decode cL_holds 265 = .ok (.iload 7, 2) := by decide +kernel
theorem dL_holds_267 : decode cL_holds 267 = .ok (.iload 9, 2) := by decide +kernel
theorem dL_holds_269 : decode cL_holds 269 = .ok (.invokestatic 103, 3) := by decide +kernel
theorem dL_holds_272 : decode cL_holds 272 = .ok (.iload 9, 2) := by decide +kernel
theorem dL_holds_274 : decode cL_holds 274 = .ok (.if_icmp .le 36, 3) := by decide +kernel
theorem dL_holds_277 : decode cL_holds 277 = .ok (.goto 29, 3) := by decide +kernel
theorem dL_holds_280 : decode cL_holds 280 = .ok (.aload_n 0, 1) := by decide +kernel
theorem dL_holds_281 : decode cL_holds 281 = .ok (.iload 7, 2) := by decide +kernel
theorem dL_holds_283 : decode cL_holds 283 = .ok (.iload 9, 2) := by decide +kernel
theorem dL_holds_285 : decode cL_holds 285 = .ok (.invokestatic 103, 3) := by decide +kernel
theorem dL_holds_288 : decode cL_holds 288 = .ok (.iload 9, 2) := by decide +kernel
theorem dL_holds_290 : decode cL_holds 290 = .ok (.if_icmp .ne 20, 3) := by decide +kernel
theorem dL_holds_293 : decode cL_holds 293 = .ok (.aload_n 0, 1) := by decide +kernel
theorem dL_holds_294 : decode cL_holds 294 = .ok (.iload 7, 2) := by decide +kernel
theorem dL_holds_296 : decode cL_holds 296 = .ok (.iload 9, 2) := by decide +kernel
theorem dL_holds_298 : decode cL_holds 298 = .ok (.invokestatic 100, 3) := by decide +kernel
theorem dL_holds_301 : decode cL_holds 301 = .ok (.iload 9, 2) := by decide +kernel
theorem dL_holds_303 : decode cL_holds 303 = .ok (.if_icmp .eq 7, 3) := by decide +kernel
theorem dL_holds_306 : decode cL_holds 306 = .ok (.iconst 1, 1) := by decide +kernel
theorem dL_holds_307 : decode cL_holds 307 = .ok (.goto 4, 3) := by decide +kernel
theorem dL_holds_310 : decode cL_holds 310 = .ok (.iconst 0, 1) := by decide +kernel
theorem dL_holds_311 : decode cL_holds 311 = .ok (.istore 5, 2) := by decide +kernel
theorem dL_holds_313 : decode cL_holds 313 = .ok (.iinc 9 1, 3) := by decide +kernel
theorem dL_holds_316 : decode cL_holds 316 = .ok (.goto (-237), 3) := by decide +kernel
theorem dL_holds_319 : decode cL_holds 319 = .ok (.iload 6, 2) := by decide +kernel
theorem dL_holds_321 : decode cL_holds 321 = .ok (.ifCond .ne 8, 3) := by decide +kernel
theorem dL_holds_324 : decode cL_holds 324 = .ok (.iload 8, 2) := by decide +kernel
theorem dL_holds_326 : decode cL_holds 326 = .ok (.ifCond .eq 7, 3) := by decide +kernel
theorem dL_holds_329 : decode cL_holds 329 = .ok (.iconst 1, 1) := by decide +kernel
theorem dL_holds_330 : decode cL_holds 330 = .ok (.goto 4, 3) := by decide +kernel
theorem dL_holds_333 : decode cL_holds 333 = .ok (.iconst 0, 1) := by decide +kernel
theorem dL_holds_334 : decode cL_holds 334 = .ok (.istore 6, 2) := by decide +kernel
theorem dL_holds_336 : decode cL_holds 336 = .ok (.iload 4, 2) := by decide +kernel
theorem dL_holds_338 : decode cL_holds 338 = .ok (.iload 8, 2) := by decide +kernel
theorem dL_holds_340 : decode cL_holds 340 = .ok (.ifCond .eq 7, 3) := by decide +kernel
theorem dL_holds_343 : decode cL_holds 343 = .ok (.iconst 2, 1) := by decide +kernel
theorem dL_holds_344 : decode cL_holds 344 = .ok (.goto 4, 3) := by decide +kernel
theorem dL_holds_347 : decode cL_holds 347 = .ok (.iconst 0, 1) := by decide +kernel
theorem dL_holds_348 : decode cL_holds 348 = .ok (.iadd, 1) := by decide +kernel
theorem dL_holds_349 : decode cL_holds 349 = .ok (.istore 4, 2) := by decide +kernel
theorem dL_holds_351 : decode cL_holds 351 = .ok (.iload 5, 2) := by decide +kernel
theorem dL_holds_353 : decode cL_holds 353 = .ok (.ifCond .eq 57, 3) := by decide +kernel
theorem dL_holds_356 : decode cL_holds 356 = .ok (.iload 8, 2) := by decide +kernel
theorem dL_holds_358 : decode cL_holds 358 = .ok (.aload_n 0, 1) := by decide +kernel
theorem dL_holds_359 : decode cL_holds 359 = .ok (.iload 7, 2) := by decide +kernel
theorem dL_holds_361 : decode cL_holds 361 = .ok (.iconst 1, 1) := by decide +kernel
theorem dL_holds_362 : decode cL_holds 362 = .ok (.invokestatic 127, 3) := by decide +kernel
theorem dL_holds_365 : decode cL_holds 365 = .ok (.ifCond .lt 7, 3) := by decide +kernel
theorem dL_holds_368 : decode cL_holds 368 = .ok (.iconst 1, 1) := by decide +kernel
theorem dL_holds_369 : decode cL_holds 369 = .ok (.goto 4, 3) := by decide +kernel
theorem dL_holds_372 : decode cL_holds 372 = .ok (.iconst 0, 1) := by decide +kernel
theorem dL_holds_373 : decode cL_holds 373 = .ok (.if_icmp .ne 37, 3) := by decide +kernel
theorem dL_holds_376 : decode cL_holds 376 = .ok (.aload_n 0, 1) := by decide +kernel
theorem dL_holds_377 : decode cL_holds 377 = .ok (.aload_n 3, 1) := by decide +kernel
theorem dL_holds_378 : decode cL_holds 378 = .ok (.aload_n 0, 1) := by decide +kernel
theorem dL_holds_379 : decode cL_holds 379 = .ok (.iload 7, 2) := by decide +kernel
theorem dL_holds_381 : decode cL_holds 381 = .ok (.iconst 0, 1) := by decide +kernel
theorem dL_holds_382 : decode cL_holds 382 = .ok (.invokestatic 127, 3) := by decide +kernel
theorem dL_holds_385 : decode cL_holds 385 = .ok (.invokestatic 161, 3) := by decide +kernel
theorem dL_holds_388 : decode cL_holds 388 = .ok (.ifCond .eq 22, 3) := by decide +kernel
theorem dL_holds_391 : decode cL_holds 391 = .ok (.aload_n 0, 1) := by decide +kernel
theorem dL_holds_392 : decode cL_holds 392 = .ok (.aload_n 3, 1) := by decide +kernel
theorem dL_holds_393 : decode cL_holds 393 = .ok (.aload_n 0, 1) := by decide +kernel
theorem dL_holds_394 : decode cL_holds 394 = .ok (.iload 7, 2) := by decide +kernel
theorem dL_holds_396 : decode cL_holds 396 = .ok (.iconst 1, 1) := by decide +kernel
theorem dL_holds_397 : decode cL_holds 397 = .ok (.invokestatic 127, 3) := by decide +kernel
theorem dL_holds_400 : decode cL_holds 400 = .ok (.invokestatic 161, 3) := by decide +kernel
theorem dL_holds_403 : decode cL_holds 403 = .ok (.ifCond .eq 7, 3) := by decide +kernel
theorem dL_holds_406 : decode cL_holds 406 = .ok (.iconst 1, 1) := by decide +kernel
theorem dL_holds_407 : decode cL_holds 407 = .ok (.goto 4, 3) := by decide +kernel
theorem dL_holds_410 : decode cL_holds 410 = .ok (.iconst 0, 1) := by decide +kernel
theorem dL_holds_411 : decode cL_holds 411 = .ok (.istore 5, 2) := by decide +kernel
theorem dL_holds_413 : decode cL_holds 413 = .ok (.iinc 7 1, 3) := by decide +kernel
theorem dL_holds_416 : decode cL_holds 416 = .ok (.goto (-354), 3) := by decide +kernel
theorem dL_holds_419 : decode cL_holds 419 = .ok (.iload 4, 2) := by decide +kernel
theorem dL_holds_421 : decode cL_holds 421 = .ok (.iload 6, 2) := by decide +kernel
theorem dL_holds_423 : decode cL_holds 423 = .ok (.ifCond .eq 7, 3) := by decide +kernel
theorem dL_holds_426 : decode cL_holds 426 = .ok (.iconst 2, 1) := by decide +kernel
theorem dL_holds_427 : decode cL_holds 427 = .ok (.goto 4, 3) := by decide +kernel
theorem dL_holds_430 : decode cL_holds 430 = .ok (.iconst 0, 1) := by decide +kernel
theorem dL_holds_431 : decode cL_holds 431 = .ok (.iadd, 1) := by decide +kernel
theorem dL_holds_432 : decode cL_holds 432 = .ok (.istore 4, 2) := by decide +kernel
theorem dL_holds_434 : decode cL_holds 434 = .ok (.iload 5, 2) := by decide +kernel
theorem dL_holds_436 : decode cL_holds 436 = .ok (.ifCond .eq 50, 3) := by decide +kernel
theorem dL_holds_439 : decode cL_holds 439 = .ok (.iload 6, 2) := by decide +kernel
theorem dL_holds_441 : decode cL_holds 441 = .ok (.aload_n 0, 1) := by decide +kernel
theorem dL_holds_442 : decode cL_holds 442 = .ok (.iconst 0, 1) := by decide +kernel
theorem dL_holds_443 : decode cL_holds 443 = .ok (.invokestatic 129, 3) := by decide +kernel
theorem dL_holds_446 : decode cL_holds 446 = .ok (.ifCond .lt 7, 3) := by decide +kernel
theorem dL_holds_449 : decode cL_holds 449 = .ok (.iconst 1, 1) := by decide +kernel
theorem dL_holds_450 : decode cL_holds 450 = .ok (.goto 4, 3) := by decide +kernel
theorem dL_holds_453 : decode cL_holds 453 = .ok (.iconst 0, 1) := by decide +kernel
theorem dL_holds_454 : decode cL_holds 454 = .ok (.if_icmp .ne 32, 3) := by decide +kernel
theorem dL_holds_457 : decode cL_holds 457 = .ok (.aload_n 0, 1) := by decide +kernel
theorem dL_holds_458 : decode cL_holds 458 = .ok (.iconst 0, 1) := by decide +kernel
theorem dL_holds_459 : decode cL_holds 459 = .ok (.invokestatic 120, 3) := by decide +kernel
theorem dL_holds_462 : decode cL_holds 462 = .ok (.aload_n 0, 1) := by decide +kernel
theorem dL_holds_463 : decode cL_holds 463 = .ok (.iconst 1, 1) := by decide +kernel
theorem dL_holds_464 : decode cL_holds 464 = .ok (.invokestatic 120, 3) := by decide +kernel
theorem dL_holds_467 : decode cL_holds 467 = .ok (.iadd, 1) := by decide +kernel
theorem dL_holds_468 : decode cL_holds 468 = .ok (.aload_n 0, 1) := by decide +kernel
theorem dL_holds_469 : decode cL_holds 469 = .ok (.iconst 2, 1) := by decide +kernel
theorem dL_holds_470 : decode cL_holds 470 = .ok (.invokestatic 120, 3) := by decide +kernel
theorem dL_holds_473 : decode cL_holds 473 = .ok (.iadd, 1) := by decide +kernel
theorem dL_holds_474 : decode cL_holds 474 = .ok (.bipush 120, 2) := by decide +kernel
theorem dL_holds_476 : decode cL_holds 476 = .ok (.iload 4, 2) := by decide +kernel
theorem dL_holds_478 : decode cL_holds 478 = .ok (.isub, 1) := by decide +kernel
theorem dL_holds_479 : decode cL_holds 479 = .ok (.if_icmp .ne 7, 3) := by decide +kernel
theorem dL_holds_482 : decode cL_holds 482 = .ok (.iconst 1, 1) := by decide +kernel
theorem dL_holds_483 : decode cL_holds 483 = .ok (.goto 4, 3) := by decide +kernel
theorem dL_holds_486 : decode cL_holds 486 = .ok (.iconst 0, 1) := by decide +kernel
theorem dL_holds_487 : decode cL_holds 487 = .ok (.ireturn, 1) := by decide +kernel
theorem dL_isTrue_0 : decode cL_isTrue 0 = .ok (.iconst 1, 1) := by decide +kernel
theorem dL_isTrue_1 : decode cL_isTrue 1 = .ok (.istore_n 2, 1) := by decide +kernel
theorem dL_isTrue_2 : decode cL_isTrue 2 = .ok (.aload_n 0, 1) := by decide +kernel
theorem dL_isTrue_3 : decode cL_isTrue 3 = .ok (.invokevirtual 155, 3) := by decide +kernel
theorem dL_isTrue_6 : decode cL_isTrue 6 = .ok (.istore_n 3, 1) := by decide +kernel
theorem dL_isTrue_7 : decode cL_isTrue 7 = .ok (.iconst 0, 1) := by decide +kernel
theorem dL_isTrue_8 : decode cL_isTrue 8 = .ok (.istore 4, 2) := by decide +kernel
theorem dL_isTrue_10 : decode cL_isTrue 10 = .ok (.iload 4, 2) := by decide +kernel
theorem dL_isTrue_12 : decode cL_isTrue 12 = .ok (.bipush 48, 2) := by decide +kernel
theorem dL_isTrue_14 : decode cL_isTrue 14 = .ok (.if_icmp .ge 62, 3) := by decide +kernel
theorem dL_isTrue_17 : decode cL_isTrue 17 = .ok (.iload_n 2, 1) := by decide +kernel
theorem dL_isTrue_18 : decode cL_isTrue 18 = .ok (.ifCond .eq 58, 3) := by decide +kernel
theorem dL_isTrue_21 : decode cL_isTrue 21 = .ok (.aload_n 0, 1) := by decide +kernel
theorem dL_isTrue_22 : decode cL_isTrue 22 = .ok (.iload 4, 2) := by decide +kernel
theorem dL_isTrue_24 : decode cL_isTrue 24 = .ok (.bipush 12, 2) := by decide +kernel
theorem dL_isTrue_26 : decode cL_isTrue 26 = .ok (.idiv, 1) := by decide +kernel
theorem dL_isTrue_27 : decode cL_isTrue 27 = .ok (.iload 4, 2) := by decide +kernel
theorem dL_isTrue_29 : decode cL_isTrue 29 = .ok (.bipush 12, 2) := by decide +kernel
theorem dL_isTrue_31 : decode cL_isTrue 31 = .ok (.irem, 1) := by decide +kernel
theorem dL_isTrue_32 : decode cL_isTrue 32 = .ok (.invokestatic 97, 3) := by decide +kernel
theorem dL_isTrue_35 : decode cL_isTrue 35 = .ok (.istore 5, 2) := by decide +kernel
theorem dL_isTrue_37 : decode cL_isTrue 37 = .ok (.iload 5, 2) := by decide +kernel
theorem dL_isTrue_39 : decode cL_isTrue 39 = .ok (.aload_n 1, 1) := by decide +kernel
theorem dL_isTrue_40 : decode cL_isTrue 40 = .ok (.iload 4, 2) := by decide +kernel
theorem dL_isTrue_42 : decode cL_isTrue 42 = .ok (.iaload, 1) := by decide +kernel
theorem dL_isTrue_43 : decode cL_isTrue 43 = .ok (.if_icmp .eq 21, 3) := by decide +kernel
theorem dL_isTrue_46 : decode cL_isTrue 46 = .ok (.iload 5, 2) := by decide +kernel
theorem dL_isTrue_48 : decode cL_isTrue 48 = .ok (.ldc 28, 2) := by decide +kernel
theorem dL_isTrue_50 : decode cL_isTrue 50 = .ok (.if_icmp .ne 18, 3) := by decide +kernel
theorem dL_isTrue_53 : decode cL_isTrue 53 = .ok (.iload_n 3, 1) := by decide +kernel
theorem dL_isTrue_54 : decode cL_isTrue 54 = .ok (.ifCond .gt 10, 3) := by decide +kernel
theorem dL_isTrue_57 : decode cL_isTrue 57 = .ok (.aload_n 1, 1) := by decide +kernel
theorem dL_isTrue_58 : decode cL_isTrue 58 = .ok (.iload 4, 2) := by decide +kernel
theorem dL_isTrue_60 : decode cL_isTrue 60 = .ok (.iaload, 1) := by decide +kernel
theorem dL_isTrue_61 : decode cL_isTrue 61 = .ok (.ifCond .ne 7, 3) := by decide +kernel
theorem dL_isTrue_64 : decode cL_isTrue 64 = .ok (.iconst 1, 1) := by decide +kernel
theorem dL_isTrue_65 : decode cL_isTrue 65 = .ok (.goto 4, 3) := by decide +kernel
theorem dL_isTrue_68 : decode cL_isTrue 68 = .ok (.iconst 0, 1) := by decide +kernel
theorem dL_isTrue_69 : decode cL_isTrue 69 = .ok (.istore_n 2, 1) := by decide +kernel
theorem dL_isTrue_70 : decode cL_isTrue 70 = .ok (.iinc 4 1, 3) := by decide +kernel
theorem dL_isTrue_73 : decode cL_isTrue 73 = .ok (.goto (-63), 3) := by decide +kernel
theorem dL_isTrue_76 : decode cL_isTrue 76 = .ok (.iload_n 2, 1) := by decide +kernel
theorem dL_isTrue_77 : decode cL_isTrue 77 = .ok (.ifCond .eq 15, 3) := by decide +kernel
