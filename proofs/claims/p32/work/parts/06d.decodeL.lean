theorem dL_acts_293 : decode cL_acts 293 = .ok (.iastore, 1) := by decide +kernel
theorem dL_acts_294 : decode cL_acts 294 = .ok (.aload_n 0, 1) := by decide +kernel
theorem dL_acts_295 : decode cL_acts 295 = .ok (.iload 7, 2) := by decide +kernel
theorem dL_acts_297 : decode cL_acts 297 = .ok (.invokestatic 120, 3) := by decide +kernel
theorem dL_acts_300 : decode cL_acts 300 = .ok (.iload 10, 2) := by decide +kernel
theorem dL_acts_302 : decode cL_acts 302 = .ok (.if_icmp .ne 7, 3) := by decide +kernel
theorem dL_acts_305 : decode cL_acts 305 = .ok (.iconst 1, 1) := by decide +kernel
theorem dL_acts_306 : decode cL_acts 306 = .ok (.goto 4, 3) := by decide +kernel
theorem dL_acts_309 : decode cL_acts 309 = .ok (.iconst 0, 1) := by decide +kernel
theorem dL_acts_310 : decode cL_acts 310 = .ok (.ireturn, 1) := by decide +kernel
theorem dL_acts_311 : decode cL_acts 311 = .ok (.iload 6, 2) := by decide +kernel
theorem dL_acts_313 : decode cL_acts 313 = .ok (.bipush 9, 2) := by decide +kernel
theorem dL_acts_315 : decode cL_acts 315 = .ok (.if_icmp .ge 119, 3) := by decide +kernel
theorem dL_acts_318 : decode cL_acts 318 = .ok (.iload 5, 2) := by decide +kernel
theorem dL_acts_320 : decode cL_acts 320 = .ok (.bipush 8, 2) := by decide +kernel
theorem dL_acts_322 : decode cL_acts 322 = .ok (.idiv, 1) := by decide +kernel
theorem dL_acts_323 : decode cL_acts 323 = .ok (.sipush 260, 3) := by decide +kernel
theorem dL_acts_326 : decode cL_acts 326 = .ok (.irem, 1) := by decide +kernel
theorem dL_acts_327 : decode cL_acts 327 = .ok (.istore 10, 2) := by decide +kernel
theorem dL_acts_329 : decode cL_acts 329 = .ok (.iload 10, 2) := by decide +kernel
theorem dL_acts_331 : decode cL_acts 331 = .ok (.aload_n 1, 1) := by decide +kernel
theorem dL_acts_332 : decode cL_acts 332 = .ok (.iconst 0, 1) := by decide +kernel
theorem dL_acts_333 : decode cL_acts 333 = .ok (.iaload, 1) := by decide +kernel
theorem dL_acts_334 : decode cL_acts 334 = .ok (.invokestatic 124, 3) := by decide +kernel
theorem dL_acts_337 : decode cL_acts 337 = .ok (.if_icmp .lt 22, 3) := by decide +kernel
theorem dL_acts_340 : decode cL_acts 340 = .ok (.aload_n 0, 1) := by decide +kernel
theorem dL_acts_341 : decode cL_acts 341 = .ok (.iload 10, 2) := by decide +kernel
theorem dL_acts_343 : decode cL_acts 343 = .ok (.iload 7, 2) := by decide +kernel
theorem dL_acts_345 : decode cL_acts 345 = .ok (.invokestatic 127, 3) := by decide +kernel
theorem dL_acts_348 : decode cL_acts 348 = .ok (.ldc 55, 2) := by decide +kernel
theorem dL_acts_350 : decode cL_acts 350 = .ok (.if_icmp .ne 7, 3) := by decide +kernel
theorem dL_acts_353 : decode cL_acts 353 = .ok (.iconst 1, 1) := by decide +kernel
theorem dL_acts_354 : decode cL_acts 354 = .ok (.goto 4, 3) := by decide +kernel
theorem dL_acts_357 : decode cL_acts 357 = .ok (.iconst 0, 1) := by decide +kernel
theorem dL_acts_358 : decode cL_acts 358 = .ok (.ireturn, 1) := by decide +kernel
theorem dL_acts_359 : decode cL_acts 359 = .ok (.bipush 8, 2) := by decide +kernel
theorem dL_acts_361 : decode cL_acts 361 = .ok (.newarray .long, 2) := by decide +kernel
theorem dL_acts_363 : decode cL_acts 363 = .ok (.astore 11, 2) := by decide +kernel
theorem dL_acts_365 : decode cL_acts 365 = .ok (.aload_n 1, 1) := by decide +kernel
theorem dL_acts_366 : decode cL_acts 366 = .ok (.iconst 0, 1) := by decide +kernel
theorem dL_acts_367 : decode cL_acts 367 = .ok (.iaload, 1) := by decide +kernel
theorem dL_acts_368 : decode cL_acts 368 = .ok (.aload 11, 2) := by decide +kernel
theorem dL_acts_370 : decode cL_acts 370 = .ok (.aload 11, 2) := by decide +kernel
theorem dL_acts_372 : decode cL_acts 372 = .ok (.iload 10, 2) := by decide +kernel
theorem dL_acts_374 : decode cL_acts 374 = .ok (.invokestatic 131, 3) := by decide +kernel
theorem dL_acts_377 : decode cL_acts 377 = .ok (.aload_n 1, 1) := by decide +kernel
theorem dL_acts_378 : decode cL_acts 378 = .ok (.iconst 0, 1) := by decide +kernel
theorem dL_acts_379 : decode cL_acts 379 = .ok (.iaload, 1) := by decide +kernel
theorem dL_acts_380 : decode cL_acts 380 = .ok (.invokestatic 124, 3) := by decide +kernel
theorem dL_acts_383 : decode cL_acts 383 = .ok (.if_icmp .ne 7, 3) := by decide +kernel
theorem dL_acts_386 : decode cL_acts 386 = .ok (.iconst 1, 1) := by decide +kernel
theorem dL_acts_387 : decode cL_acts 387 = .ok (.goto 4, 3) := by decide +kernel
theorem dL_acts_390 : decode cL_acts 390 = .ok (.iconst 0, 1) := by decide +kernel
theorem dL_acts_391 : decode cL_acts 391 = .ok (.istore 12, 2) := by decide +kernel
theorem dL_acts_393 : decode cL_acts 393 = .ok (.iload 12, 2) := by decide +kernel
theorem dL_acts_395 : decode cL_acts 395 = .ok (.ifCond .eq 37, 3) := by decide +kernel
theorem dL_acts_398 : decode cL_acts 398 = .ok (.aload_n 2, 1) := by decide +kernel
theorem dL_acts_399 : decode cL_acts 399 = .ok (.iload 7, 2) := by decide +kernel
theorem dL_acts_401 : decode cL_acts 401 = .ok (.aload 11, 2) := by decide +kernel
theorem dL_acts_403 : decode cL_acts 403 = .ok (.lconst 1, 1) := by decide +kernel
theorem dL_acts_404 : decode cL_acts 404 = .ok (.invokestatic 135, 3) := by decide +kernel
theorem dL_acts_407 : decode cL_acts 407 = .ok (.ifCond .eq 25, 3) := by decide +kernel
theorem dL_acts_410 : decode cL_acts 410 = .ok (.aload_n 0, 1) := by decide +kernel
theorem dL_acts_411 : decode cL_acts 411 = .ok (.iload 10, 2) := by decide +kernel
theorem dL_acts_413 : decode cL_acts 413 = .ok (.iload 7, 2) := by decide +kernel
theorem dL_acts_415 : decode cL_acts 415 = .ok (.invokestatic 127, 3) := by decide +kernel
theorem dL_acts_418 : decode cL_acts 418 = .ok (.aload_n 2, 1) := by decide +kernel
theorem dL_acts_419 : decode cL_acts 419 = .ok (.bipush 8, 2) := by decide +kernel
theorem dL_acts_421 : decode cL_acts 421 = .ok (.iload 7, 2) := by decide +kernel
theorem dL_acts_423 : decode cL_acts 423 = .ok (.imul, 1) := by decide +kernel
theorem dL_acts_424 : decode cL_acts 424 = .ok (.iaload, 1) := by decide +kernel
theorem dL_acts_425 : decode cL_acts 425 = .ok (.if_icmp .ne 7, 3) := by decide +kernel
theorem dL_acts_428 : decode cL_acts 428 = .ok (.iconst 1, 1) := by decide +kernel
theorem dL_acts_429 : decode cL_acts 429 = .ok (.goto 4, 3) := by decide +kernel
theorem dL_acts_432 : decode cL_acts 432 = .ok (.iconst 0, 1) := by decide +kernel
theorem dL_acts_433 : decode cL_acts 433 = .ok (.ireturn, 1) := by decide +kernel
theorem dL_acts_434 : decode cL_acts 434 = .ok (.iload 6, 2) := by decide +kernel
theorem dL_acts_436 : decode cL_acts 436 = .ok (.bipush 12, 2) := by decide +kernel
theorem dL_acts_438 : decode cL_acts 438 = .ok (.if_icmp .ge 113, 3) := by decide +kernel
theorem dL_acts_441 : decode cL_acts 441 = .ok (.iload 5, 2) := by decide +kernel
theorem dL_acts_443 : decode cL_acts 443 = .ok (.iconst 3, 1) := by decide +kernel
theorem dL_acts_444 : decode cL_acts 444 = .ok (.irem, 1) := by decide +kernel
theorem dL_acts_445 : decode cL_acts 445 = .ok (.ifCond .ne 7, 3) := by decide +kernel
theorem dL_acts_448 : decode cL_acts 448 = .ok (.iconst 1, 1) := by decide +kernel
theorem dL_acts_449 : decode cL_acts 449 = .ok (.goto 4, 3) := by decide +kernel
theorem dL_acts_452 : decode cL_acts 452 = .ok (.iconst 0, 1) := by decide +kernel
theorem dL_acts_453 : decode cL_acts 453 = .ok (.istore 10, 2) := by decide +kernel
theorem dL_acts_455 : decode cL_acts 455 = .ok (.aload_n 2, 1) := by decide +kernel
theorem dL_acts_456 : decode cL_acts 456 = .ok (.iload 8, 2) := by decide +kernel
theorem dL_acts_458 : decode cL_acts 458 = .ok (.invokestatic 116, 3) := by decide +kernel
theorem dL_acts_461 : decode cL_acts 461 = .ok (.astore 11, 2) := by decide +kernel
theorem dL_acts_463 : decode cL_acts 463 = .ok (.iload 10, 2) := by decide +kernel
theorem dL_acts_465 : decode cL_acts 465 = .ok (.ifCond .eq 17, 3) := by decide +kernel
theorem dL_acts_468 : decode cL_acts 468 = .ok (.aload_n 2, 1) := by decide +kernel
theorem dL_acts_469 : decode cL_acts 469 = .ok (.iload 7, 2) := by decide +kernel
theorem dL_acts_471 : decode cL_acts 471 = .ok (.invokestatic 116, 3) := by decide +kernel
theorem dL_acts_474 : decode cL_acts 474 = .ok (.aload 11, 2) := by decide +kernel
theorem dL_acts_476 : decode cL_acts 476 = .ok (.invokestatic 31, 3) := by decide +kernel
theorem dL_acts_479 : decode cL_acts 479 = .ok (.goto 21, 3) := by decide +kernel
theorem dL_acts_482 : decode cL_acts 482 = .ok (.aload_n 2, 1) := by decide +kernel
theorem dL_acts_483 : decode cL_acts 483 = .ok (.iload 7, 2) := by decide +kernel
theorem dL_acts_485 : decode cL_acts 485 = .ok (.invokestatic 116, 3) := by decide +kernel
theorem dL_acts_488 : decode cL_acts 488 = .ok (.bipush 8, 2) := by decide +kernel
theorem dL_acts_490 : decode cL_acts 490 = .ok (.newarray .long, 2) := by decide +kernel
theorem dL_acts_492 : decode cL_acts 492 = .ok (.aload 11, 2) := by decide +kernel
theorem dL_acts_494 : decode cL_acts 494 = .ok (.invokestatic 31, 3) := by decide +kernel
theorem dL_acts_497 : decode cL_acts 497 = .ok (.invokestatic 31, 3) := by decide +kernel
theorem dL_acts_500 : decode cL_acts 500 = .ok (.astore 11, 2) := by decide +kernel
theorem dL_acts_502 : decode cL_acts 502 = .ok (.aload_n 2, 1) := by decide +kernel
theorem dL_acts_503 : decode cL_acts 503 = .ok (.iload 9, 2) := by decide +kernel
theorem dL_acts_505 : decode cL_acts 505 = .ok (.aload 11, 2) := by decide +kernel
theorem dL_acts_507 : decode cL_acts 507 = .ok (.lconst 1, 1) := by decide +kernel
theorem dL_acts_508 : decode cL_acts 508 = .ok (.invokestatic 135, 3) := by decide +kernel
theorem dL_acts_511 : decode cL_acts 511 = .ok (.istore 12, 2) := by decide +kernel
theorem dL_acts_513 : decode cL_acts 513 = .ok (.aload_n 0, 1) := by decide +kernel
theorem dL_acts_514 : decode cL_acts 514 = .ok (.iload 7, 2) := by decide +kernel
theorem dL_acts_516 : decode cL_acts 516 = .ok (.iload 8, 2) := by decide +kernel
theorem dL_acts_518 : decode cL_acts 518 = .ok (.iload 9, 2) := by decide +kernel
theorem dL_acts_520 : decode cL_acts 520 = .ok (.iload 10, 2) := by decide +kernel
theorem dL_acts_522 : decode cL_acts 522 = .ok (.invokestatic 139, 3) := by decide +kernel
