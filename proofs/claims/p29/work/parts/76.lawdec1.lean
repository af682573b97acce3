/-! ===== by program (wip/p29/lawdec.py): the law's instructions ===== -/
theorem dL_refuses_238 : decode cL_refuses 238 = .ok (.iload 4, 2) := by decide +kernel
theorem dL_refuses_240 : decode cL_refuses 240 = .ok (.iload_n 3, 1) := by decide +kernel
theorem dL_refuses_241 : decode cL_refuses 241 = .ok (.invokestatic 100, 3) := by decide +kernel
theorem dL_refuses_244 : decode cL_refuses 244 = .ok (.ldc 15, 2) := by decide +kernel
theorem dL_refuses_246 : decode cL_refuses 246 = .ok (.if_icmp .ne 71, 3) := by decide +kernel
theorem dL_refuses_249 : decode cL_refuses 249 = .ok (.aload_n 0, 1) := by decide +kernel
theorem dL_refuses_250 : decode cL_refuses 250 = .ok (.iload_n 2, 1) := by decide +kernel
theorem dL_refuses_251 : decode cL_refuses 251 = .ok (.iload 5, 2) := by decide +kernel
theorem dL_refuses_253 : decode cL_refuses 253 = .ok (.invokestatic 103, 3) := by decide +kernel
theorem dL_refuses_256 : decode cL_refuses 256 = .ok (.ldc 15, 2) := by decide +kernel
theorem dL_refuses_258 : decode cL_refuses 258 = .ok (.if_icmp .ne 59, 3) := by decide +kernel
theorem dL_refuses_261 : decode cL_refuses 261 = .ok (.aload_n 0, 1) := by decide +kernel
theorem dL_refuses_262 : decode cL_refuses 262 = .ok (.iload_n 2, 1) := by decide +kernel
theorem dL_refuses_263 : decode cL_refuses 263 = .ok (.iconst 0, 1) := by decide +kernel
theorem dL_refuses_264 : decode cL_refuses 264 = .ok (.invokestatic 106, 3) := by decide +kernel
theorem dL_refuses_267 : decode cL_refuses 267 = .ok (.ldc 15, 2) := by decide +kernel
theorem dL_refuses_269 : decode cL_refuses 269 = .ok (.if_icmp .ne 48, 3) := by decide +kernel
theorem dL_refuses_272 : decode cL_refuses 272 = .ok (.aload_n 0, 1) := by decide +kernel
theorem dL_refuses_273 : decode cL_refuses 273 = .ok (.iload_n 1, 1) := by decide +kernel
theorem dL_refuses_274 : decode cL_refuses 274 = .ok (.iconst 3, 1) := by decide +kernel
theorem dL_refuses_275 : decode cL_refuses 275 = .ok (.irem, 1) := by decide +kernel
theorem dL_refuses_276 : decode cL_refuses 276 = .ok (.iconst 2, 1) := by decide +kernel
theorem dL_refuses_277 : decode cL_refuses 277 = .ok (.iload_n 1, 1) := by decide +kernel
theorem dL_refuses_278 : decode cL_refuses 278 = .ok (.iadd, 1) := by decide +kernel
theorem dL_refuses_279 : decode cL_refuses 279 = .ok (.invokestatic 106, 3) := by decide +kernel
theorem dL_refuses_282 : decode cL_refuses 282 = .ok (.ldc 15, 2) := by decide +kernel
theorem dL_refuses_284 : decode cL_refuses 284 = .ok (.if_icmp .ne 33, 3) := by decide +kernel
theorem dL_refuses_287 : decode cL_refuses 287 = .ok (.aload_n 0, 1) := by decide +kernel
theorem dL_refuses_288 : decode cL_refuses 288 = .ok (.iload_n 1, 1) := by decide +kernel
theorem dL_refuses_289 : decode cL_refuses 289 = .ok (.iconst 3, 1) := by decide +kernel
theorem dL_refuses_290 : decode cL_refuses 290 = .ok (.irem, 1) := by decide +kernel
theorem dL_refuses_291 : decode cL_refuses 291 = .ok (.iconst (-1), 1) := by decide +kernel
theorem dL_refuses_292 : decode cL_refuses 292 = .ok (.iload_n 1, 1) := by decide +kernel
theorem dL_refuses_293 : decode cL_refuses 293 = .ok (.isub, 1) := by decide +kernel
theorem dL_refuses_294 : decode cL_refuses 294 = .ok (.invokestatic 109, 3) := by decide +kernel
theorem dL_refuses_297 : decode cL_refuses 297 = .ok (.ldc 15, 2) := by decide +kernel
theorem dL_refuses_299 : decode cL_refuses 299 = .ok (.if_icmp .ne 18, 3) := by decide +kernel
theorem dL_refuses_302 : decode cL_refuses 302 = .ok (.aload_n 0, 1) := by decide +kernel
theorem dL_refuses_303 : decode cL_refuses 303 = .ok (.iconst 3, 1) := by decide +kernel
theorem dL_refuses_304 : decode cL_refuses 304 = .ok (.iconst 0, 1) := by decide +kernel
theorem dL_refuses_305 : decode cL_refuses 305 = .ok (.invokestatic 109, 3) := by decide +kernel
theorem dL_refuses_308 : decode cL_refuses 308 = .ok (.ldc 15, 2) := by decide +kernel
theorem dL_refuses_310 : decode cL_refuses 310 = .ok (.if_icmp .ne 7, 3) := by decide +kernel
theorem dL_refuses_313 : decode cL_refuses 313 = .ok (.iconst 1, 1) := by decide +kernel
theorem dL_refuses_314 : decode cL_refuses 314 = .ok (.goto 4, 3) := by decide +kernel
theorem dL_refuses_317 : decode cL_refuses 317 = .ok (.iconst 0, 1) := by decide +kernel
theorem dL_refuses_318 : decode cL_refuses 318 = .ok (.istore 6, 2) := by decide +kernel
theorem dL_refuses_320 : decode cL_refuses 320 = .ok (.iload 6, 2) := by decide +kernel
theorem dL_refuses_322 : decode cL_refuses 322 = .ok (.ifCond .eq 205, 3) := by decide +kernel
theorem dL_refuses_325 : decode cL_refuses 325 = .ok (.aload_n 0, 1) := by decide +kernel
theorem dL_refuses_326 : decode cL_refuses 326 = .ok (.iload_n 1, 1) := by decide +kernel
theorem dL_refuses_327 : decode cL_refuses 327 = .ok (.iconst 3, 1) := by decide +kernel
theorem dL_refuses_328 : decode cL_refuses 328 = .ok (.irem, 1) := by decide +kernel
theorem dL_refuses_329 : decode cL_refuses 329 = .ok (.iconst 0, 1) := by decide +kernel
theorem dL_refuses_330 : decode cL_refuses 330 = .ok (.bipush 40, 2) := by decide +kernel
theorem dL_refuses_332 : decode cL_refuses 332 = .ok (.iload_n 1, 1) := by decide +kernel
theorem dL_refuses_333 : decode cL_refuses 333 = .ok (.iadd, 1) := by decide +kernel
theorem dL_refuses_334 : decode cL_refuses 334 = .ok (.invokestatic 112, 3) := by decide +kernel
theorem dL_refuses_337 : decode cL_refuses 337 = .ok (.ldc 15, 2) := by decide +kernel
theorem dL_refuses_339 : decode cL_refuses 339 = .ok (.if_icmp .ne 188, 3) := by decide +kernel
theorem dL_refuses_342 : decode cL_refuses 342 = .ok (.aload_n 0, 1) := by decide +kernel
theorem dL_refuses_343 : decode cL_refuses 343 = .ok (.iload_n 2, 1) := by decide +kernel
theorem dL_refuses_344 : decode cL_refuses 344 = .ok (.iconst 0, 1) := by decide +kernel
theorem dL_refuses_345 : decode cL_refuses 345 = .ok (.iconst 0, 1) := by decide +kernel
theorem dL_refuses_346 : decode cL_refuses 346 = .ok (.invokestatic 112, 3) := by decide +kernel
theorem dL_refuses_349 : decode cL_refuses 349 = .ok (.ldc 15, 2) := by decide +kernel
theorem dL_refuses_351 : decode cL_refuses 351 = .ok (.if_icmp .ne 176, 3) := by decide +kernel
theorem dL_refuses_354 : decode cL_refuses 354 = .ok (.aload_n 0, 1) := by decide +kernel
theorem dL_refuses_355 : decode cL_refuses 355 = .ok (.iconst 0, 1) := by decide +kernel
theorem dL_refuses_356 : decode cL_refuses 356 = .ok (.iconst 2, 1) := by decide +kernel
theorem dL_refuses_357 : decode cL_refuses 357 = .ok (.iconst 0, 1) := by decide +kernel
theorem dL_refuses_358 : decode cL_refuses 358 = .ok (.invokestatic 112, 3) := by decide +kernel
theorem dL_refuses_361 : decode cL_refuses 361 = .ok (.ldc 15, 2) := by decide +kernel
theorem dL_refuses_363 : decode cL_refuses 363 = .ok (.if_icmp .ne 164, 3) := by decide +kernel
theorem dL_refuses_366 : decode cL_refuses 366 = .ok (.aload_n 0, 1) := by decide +kernel
theorem dL_refuses_367 : decode cL_refuses 367 = .ok (.iconst 1, 1) := by decide +kernel
theorem dL_refuses_368 : decode cL_refuses 368 = .ok (.iconst 1, 1) := by decide +kernel
theorem dL_refuses_369 : decode cL_refuses 369 = .ok (.iconst (-1), 1) := by decide +kernel
theorem dL_refuses_370 : decode cL_refuses 370 = .ok (.invokestatic 115, 3) := by decide +kernel
theorem dL_refuses_373 : decode cL_refuses 373 = .ok (.ldc 15, 2) := by decide +kernel
theorem dL_refuses_375 : decode cL_refuses 375 = .ok (.if_icmp .ne 152, 3) := by decide +kernel
theorem dL_refuses_378 : decode cL_refuses 378 = .ok (.aload_n 0, 1) := by decide +kernel
theorem dL_refuses_379 : decode cL_refuses 379 = .ok (.iconst 2, 1) := by decide +kernel
theorem dL_refuses_380 : decode cL_refuses 380 = .ok (.bipush 40, 2) := by decide +kernel
theorem dL_refuses_382 : decode cL_refuses 382 = .ok (.invokestatic 118, 3) := by decide +kernel
theorem dL_refuses_385 : decode cL_refuses 385 = .ok (.ldc 15, 2) := by decide +kernel
theorem dL_refuses_387 : decode cL_refuses 387 = .ok (.if_icmp .ne 140, 3) := by decide +kernel
theorem dL_refuses_390 : decode cL_refuses 390 = .ok (.aload_n 0, 1) := by decide +kernel
theorem dL_refuses_391 : decode cL_refuses 391 = .ok (.iload_n 2, 1) := by decide +kernel
theorem dL_refuses_392 : decode cL_refuses 392 = .ok (.iconst 1, 1) := by decide +kernel
theorem dL_refuses_393 : decode cL_refuses 393 = .ok (.invokestatic 118, 3) := by decide +kernel
theorem dL_refuses_396 : decode cL_refuses 396 = .ok (.ldc 15, 2) := by decide +kernel
theorem dL_refuses_398 : decode cL_refuses 398 = .ok (.if_icmp .ne 129, 3) := by decide +kernel
theorem dL_refuses_401 : decode cL_refuses 401 = .ok (.aload_n 0, 1) := by decide +kernel
theorem dL_refuses_402 : decode cL_refuses 402 = .ok (.iload_n 2, 1) := by decide +kernel
theorem dL_refuses_403 : decode cL_refuses 403 = .ok (.invokestatic 120, 3) := by decide +kernel
theorem dL_refuses_406 : decode cL_refuses 406 = .ok (.ldc 15, 2) := by decide +kernel
theorem dL_refuses_408 : decode cL_refuses 408 = .ok (.if_icmp .ne 119, 3) := by decide +kernel
theorem dL_refuses_411 : decode cL_refuses 411 = .ok (.aload_n 0, 1) := by decide +kernel
theorem dL_refuses_412 : decode cL_refuses 412 = .ok (.iload 4, 2) := by decide +kernel
theorem dL_refuses_414 : decode cL_refuses 414 = .ok (.iload_n 3, 1) := by decide +kernel
theorem dL_refuses_415 : decode cL_refuses 415 = .ok (.invokestatic 123, 3) := by decide +kernel
theorem dL_refuses_418 : decode cL_refuses 418 = .ok (.ldc 15, 2) := by decide +kernel
theorem dL_refuses_420 : decode cL_refuses 420 = .ok (.if_icmp .ne 107, 3) := by decide +kernel
theorem dL_refuses_423 : decode cL_refuses 423 = .ok (.aload_n 0, 1) := by decide +kernel
theorem dL_refuses_424 : decode cL_refuses 424 = .ok (.iload_n 2, 1) := by decide +kernel
theorem dL_refuses_425 : decode cL_refuses 425 = .ok (.iload 5, 2) := by decide +kernel
theorem dL_refuses_427 : decode cL_refuses 427 = .ok (.iconst 0, 1) := by decide +kernel
theorem dL_refuses_428 : decode cL_refuses 428 = .ok (.invokestatic 125, 3) := by decide +kernel
theorem dL_refuses_431 : decode cL_refuses 431 = .ok (.ldc 15, 2) := by decide +kernel
theorem dL_refuses_433 : decode cL_refuses 433 = .ok (.if_icmp .ne 94, 3) := by decide +kernel
theorem dL_refuses_436 : decode cL_refuses 436 = .ok (.aload_n 0, 1) := by decide +kernel
theorem dL_refuses_437 : decode cL_refuses 437 = .ok (.iload 4, 2) := by decide +kernel
theorem dL_refuses_439 : decode cL_refuses 439 = .ok (.iload 5, 2) := by decide +kernel
theorem dL_refuses_441 : decode cL_refuses 441 = .ok (.iconst 2, 1) := by decide +kernel
theorem dL_refuses_442 : decode cL_refuses 442 = .ok (.invokestatic 125, 3) := by decide +kernel
theorem dL_refuses_445 : decode cL_refuses 445 = .ok (.ldc 34, 2) := by decide +kernel
theorem dL_refuses_447 : decode cL_refuses 447 = .ok (.if_icmp .ne 80, 3) := by decide +kernel
theorem dL_refuses_450 : decode cL_refuses 450 = .ok (.aload_n 0, 1) := by decide +kernel
theorem dL_refuses_451 : decode cL_refuses 451 = .ok (.iload 4, 2) := by decide +kernel
theorem dL_refuses_453 : decode cL_refuses 453 = .ok (.iload 5, 2) := by decide +kernel
theorem dL_refuses_455 : decode cL_refuses 455 = .ok (.iconst (-1), 1) := by decide +kernel
theorem dL_refuses_456 : decode cL_refuses 456 = .ok (.iload_n 1, 1) := by decide +kernel
theorem dL_refuses_457 : decode cL_refuses 457 = .ok (.isub, 1) := by decide +kernel
theorem dL_refuses_458 : decode cL_refuses 458 = .ok (.invokestatic 125, 3) := by decide +kernel
theorem dL_refuses_461 : decode cL_refuses 461 = .ok (.ldc 34, 2) := by decide +kernel
theorem dL_refuses_463 : decode cL_refuses 463 = .ok (.if_icmp .ne 64, 3) := by decide +kernel
theorem dL_refuses_466 : decode cL_refuses 466 = .ok (.aload_n 0, 1) := by decide +kernel
theorem dL_refuses_467 : decode cL_refuses 467 = .ok (.iload_n 2, 1) := by decide +kernel
theorem dL_refuses_468 : decode cL_refuses 468 = .ok (.iconst 0, 1) := by decide +kernel
theorem dL_refuses_469 : decode cL_refuses 469 = .ok (.invokestatic 127, 3) := by decide +kernel
theorem dL_refuses_472 : decode cL_refuses 472 = .ok (.ldc 15, 2) := by decide +kernel
theorem dL_refuses_474 : decode cL_refuses 474 = .ok (.if_icmp .ne 53, 3) := by decide +kernel
theorem dL_refuses_477 : decode cL_refuses 477 = .ok (.aload_n 0, 1) := by decide +kernel
theorem dL_refuses_478 : decode cL_refuses 478 = .ok (.iload 4, 2) := by decide +kernel
theorem dL_refuses_480 : decode cL_refuses 480 = .ok (.iconst 2, 1) := by decide +kernel
theorem dL_refuses_481 : decode cL_refuses 481 = .ok (.iload_n 1, 1) := by decide +kernel
theorem dL_refuses_482 : decode cL_refuses 482 = .ok (.iadd, 1) := by decide +kernel
theorem dL_refuses_483 : decode cL_refuses 483 = .ok (.invokestatic 127, 3) := by decide +kernel
theorem dL_refuses_486 : decode cL_refuses 486 = .ok (.ldc 34, 2) := by decide +kernel
theorem dL_refuses_488 : decode cL_refuses 488 = .ok (.if_icmp .ne 39, 3) := by decide +kernel
theorem dL_refuses_491 : decode cL_refuses 491 = .ok (.aload_n 0, 1) := by decide +kernel
theorem dL_refuses_492 : decode cL_refuses 492 = .ok (.iconst (-1), 1) := by decide +kernel
theorem dL_refuses_493 : decode cL_refuses 493 = .ok (.invokestatic 129, 3) := by decide +kernel
theorem dL_refuses_496 : decode cL_refuses 496 = .ok (.ldc 34, 2) := by decide +kernel
theorem dL_refuses_498 : decode cL_refuses 498 = .ok (.if_icmp .ne 29, 3) := by decide +kernel
theorem dL_refuses_501 : decode cL_refuses 501 = .ok (.aload_n 0, 1) := by decide +kernel
theorem dL_refuses_502 : decode cL_refuses 502 = .ok (.iload 4, 2) := by decide +kernel
theorem dL_refuses_504 : decode cL_refuses 504 = .ok (.iload_n 3, 1) := by decide +kernel
theorem dL_refuses_505 : decode cL_refuses 505 = .ok (.invokestatic 131, 3) := by decide +kernel
theorem dL_refuses_508 : decode cL_refuses 508 = .ok (.ldc 15, 2) := by decide +kernel
theorem dL_refuses_510 : decode cL_refuses 510 = .ok (.if_icmp .ne 17, 3) := by decide +kernel
theorem dL_refuses_513 : decode cL_refuses 513 = .ok (.aload_n 0, 1) := by decide +kernel
theorem dL_refuses_514 : decode cL_refuses 514 = .ok (.iload_n 2, 1) := by decide +kernel
theorem dL_refuses_515 : decode cL_refuses 515 = .ok (.invokestatic 133, 3) := by decide +kernel
