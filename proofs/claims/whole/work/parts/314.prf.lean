/-! proofs of methods -/
theorem dL_law_0 : decode cL_law 0 = .ok (.new 8, 3) := by decide +kernel
theorem dL_law_3 : decode cL_law 3 = .ok (.dup, 1) := by decide +kernel
theorem dL_law_4 : decode cL_law 4 = .ok (.invokespecial 178, 3) := by decide +kernel
theorem dL_law_7 : decode cL_law 7 = .ok (.astore_n 1, 1) := by decide +kernel
theorem dL_law_8 : decode cL_law 8 = .ok (.new 179, 3) := by decide +kernel
theorem dL_law_11 : decode cL_law 11 = .ok (.dup, 1) := by decide +kernel
theorem dL_law_12 : decode cL_law 12 = .ok (.invokespecial 181, 3) := by decide +kernel
theorem dL_law_15 : decode cL_law 15 = .ok (.astore_n 2, 1) := by decide +kernel
theorem dL_law_16 : decode cL_law 16 = .ok (.iconst 1, 1) := by decide +kernel
theorem dL_law_17 : decode cL_law 17 = .ok (.newarray .long, 2) := by decide +kernel
theorem dL_law_19 : decode cL_law 19 = .ok (.astore_n 3, 1) := by decide +kernel
theorem dL_law_20 : decode cL_law 20 = .ok (.iconst 0, 1) := by decide +kernel
theorem dL_law_21 : decode cL_law 21 = .ok (.istore 4, 2) := by decide +kernel
theorem dL_law_23 : decode cL_law 23 = .ok (.iload 4, 2) := by decide +kernel
theorem dL_law_25 : decode cL_law 25 = .ok (.aload_n 0, 1) := by decide +kernel
theorem dL_law_26 : decode cL_law 26 = .ok (.arraylength, 1) := by decide +kernel
theorem dL_law_27 : decode cL_law 27 = .ok (.bipush 6, 2) := by decide +kernel
theorem dL_law_29 : decode cL_law 29 = .ok (.isub, 1) := by decide +kernel
theorem dL_law_30 : decode cL_law 30 = .ok (.if_icmp .gt 3538, 3) := by decide +kernel
theorem dL_law_33 : decode cL_law 33 = .ok (.aload_n 0, 1) := by decide +kernel
theorem dL_law_34 : decode cL_law 34 = .ok (.iload 4, 2) := by decide +kernel
theorem dL_law_36 : decode cL_law 36 = .ok (.iaload, 1) := by decide +kernel
theorem dL_law_37 : decode cL_law 37 = .ok (.bipush 63, 2) := by decide +kernel
theorem dL_law_39 : decode cL_law 39 = .ok (.iand, 1) := by decide +kernel
theorem dL_law_40 : decode cL_law 40 = .ok (.tableswitch 3522 0 54 #[236, 340, 396, 440, 453, 466, 522, 578, 591, 659, 715, 771, 839, 895, 951, 1007, 1075, 1143, 1211, 1267, 1323, 1391, 1459, 1527, 1607, 1675, 1731, 1787, 1850, 1906, 1962, 2030, 2098, 2178, 2191, 2259, 2327, 2395, 2475, 2543, 2606, 2662, 2718, 2774, 2830, 2886, 2966, 3022, 3078, 3158, 3242, 3326, 3406, 3450, 3486], 236) := by decide +kernel
theorem dL_law_276 : decode cL_law 276 = .ok (.aload_n 1, 1) := by decide +kernel
theorem dL_law_277 : decode cL_law 277 = .ok (.aload_n 0, 1) := by decide +kernel
theorem dL_law_278 : decode cL_law 278 = .ok (.iload 4, 2) := by decide +kernel
theorem dL_law_280 : decode cL_law 280 = .ok (.iconst 1, 1) := by decide +kernel
theorem dL_law_281 : decode cL_law 281 = .ok (.iadd, 1) := by decide +kernel
theorem dL_law_282 : decode cL_law 282 = .ok (.iaload, 1) := by decide +kernel
theorem dL_law_283 : decode cL_law 283 = .ok (.aload_n 0, 1) := by decide +kernel
theorem dL_law_284 : decode cL_law 284 = .ok (.iload 4, 2) := by decide +kernel
theorem dL_law_286 : decode cL_law 286 = .ok (.iconst 2, 1) := by decide +kernel
theorem dL_law_287 : decode cL_law 287 = .ok (.iadd, 1) := by decide +kernel
theorem dL_law_288 : decode cL_law 288 = .ok (.iaload, 1) := by decide +kernel
theorem dL_law_289 : decode cL_law 289 = .ok (.aload_n 0, 1) := by decide +kernel
theorem dL_law_290 : decode cL_law 290 = .ok (.iload 4, 2) := by decide +kernel
theorem dL_law_292 : decode cL_law 292 = .ok (.iconst 3, 1) := by decide +kernel
theorem dL_law_293 : decode cL_law 293 = .ok (.iadd, 1) := by decide +kernel
theorem dL_law_294 : decode cL_law 294 = .ok (.iaload, 1) := by decide +kernel
theorem dL_law_295 : decode cL_law 295 = .ok (.aload_n 0, 1) := by decide +kernel
theorem dL_law_296 : decode cL_law 296 = .ok (.iload 4, 2) := by decide +kernel
theorem dL_law_298 : decode cL_law 298 = .ok (.iconst 4, 1) := by decide +kernel
theorem dL_law_299 : decode cL_law 299 = .ok (.iadd, 1) := by decide +kernel
theorem dL_law_300 : decode cL_law 300 = .ok (.iaload, 1) := by decide +kernel
theorem dL_law_301 : decode cL_law 301 = .ok (.aload_n 0, 1) := by decide +kernel
theorem dL_law_302 : decode cL_law 302 = .ok (.iload 4, 2) := by decide +kernel
theorem dL_law_304 : decode cL_law 304 = .ok (.iconst 5, 1) := by decide +kernel
theorem dL_law_305 : decode cL_law 305 = .ok (.iadd, 1) := by decide +kernel
theorem dL_law_306 : decode cL_law 306 = .ok (.iaload, 1) := by decide +kernel
theorem dL_law_307 : decode cL_law 307 = .ok (.aload_n 3, 1) := by decide +kernel
theorem dL_law_308 : decode cL_law 308 = .ok (.invokestatic 182, 3) := by decide +kernel
theorem dL_law_311 : decode cL_law 311 = .ok (.istore 5, 2) := by decide +kernel
theorem dL_law_313 : decode cL_law 313 = .ok (.aload_n 2, 1) := by decide +kernel
theorem dL_law_314 : decode cL_law 314 = .ok (.aload_n 0, 1) := by decide +kernel
theorem dL_law_315 : decode cL_law 315 = .ok (.iload 4, 2) := by decide +kernel
theorem dL_law_317 : decode cL_law 317 = .ok (.iconst 1, 1) := by decide +kernel
theorem dL_law_318 : decode cL_law 318 = .ok (.iadd, 1) := by decide +kernel
theorem dL_law_319 : decode cL_law 319 = .ok (.iaload, 1) := by decide +kernel
theorem dL_law_320 : decode cL_law 320 = .ok (.aload_n 0, 1) := by decide +kernel
theorem dL_law_321 : decode cL_law 321 = .ok (.iload 4, 2) := by decide +kernel
theorem dL_law_323 : decode cL_law 323 = .ok (.iconst 2, 1) := by decide +kernel
theorem dL_law_324 : decode cL_law 324 = .ok (.iadd, 1) := by decide +kernel
theorem dL_law_325 : decode cL_law 325 = .ok (.iaload, 1) := by decide +kernel
theorem dL_law_326 : decode cL_law 326 = .ok (.aload_n 0, 1) := by decide +kernel
theorem dL_law_327 : decode cL_law 327 = .ok (.iload 4, 2) := by decide +kernel
theorem dL_law_329 : decode cL_law 329 = .ok (.iconst 3, 1) := by decide +kernel
theorem dL_law_330 : decode cL_law 330 = .ok (.iadd, 1) := by decide +kernel
theorem dL_law_331 : decode cL_law 331 = .ok (.iaload, 1) := by decide +kernel
theorem dL_law_332 : decode cL_law 332 = .ok (.aload_n 0, 1) := by decide +kernel
theorem dL_law_333 : decode cL_law 333 = .ok (.iload 4, 2) := by decide +kernel
theorem dL_law_335 : decode cL_law 335 = .ok (.iconst 4, 1) := by decide +kernel
theorem dL_law_336 : decode cL_law 336 = .ok (.iadd, 1) := by decide +kernel
theorem dL_law_337 : decode cL_law 337 = .ok (.iaload, 1) := by decide +kernel
theorem dL_law_338 : decode cL_law 338 = .ok (.aload_n 0, 1) := by decide +kernel
theorem dL_law_339 : decode cL_law 339 = .ok (.iload 4, 2) := by decide +kernel
theorem dL_law_341 : decode cL_law 341 = .ok (.iconst 5, 1) := by decide +kernel
theorem dL_law_342 : decode cL_law 342 = .ok (.iadd, 1) := by decide +kernel
theorem dL_law_343 : decode cL_law 343 = .ok (.iaload, 1) := by decide +kernel
theorem dL_law_344 : decode cL_law 344 = .ok (.invokevirtual 187, 3) := by decide +kernel
theorem dL_law_347 : decode cL_law 347 = .ok (.istore 6, 2) := by decide +kernel
theorem dL_law_349 : decode cL_law 349 = .ok (.aload_n 2, 1) := by decide +kernel
theorem dL_law_350 : decode cL_law 350 = .ok (.invokevirtual 188, 3) := by decide +kernel
theorem dL_law_353 : decode cL_law 353 = .ok (.iload 5, 2) := by decide +kernel
theorem dL_law_355 : decode cL_law 355 = .ok (.if_icmp .eq 5, 3) := by decide +kernel
theorem dL_law_358 : decode cL_law 358 = .ok (.iconst 0, 1) := by decide +kernel
theorem dL_law_359 : decode cL_law 359 = .ok (.ireturn, 1) := by decide +kernel
theorem dL_law_360 : decode cL_law 360 = .ok (.iload 5, 2) := by decide +kernel
theorem dL_law_362 : decode cL_law 362 = .ok (.ifCond .ne 15, 3) := by decide +kernel
theorem dL_law_365 : decode cL_law 365 = .ok (.aload_n 3, 1) := by decide +kernel
theorem dL_law_366 : decode cL_law 366 = .ok (.iconst 0, 1) := by decide +kernel
theorem dL_law_367 : decode cL_law 367 = .ok (.laload, 1) := by decide +kernel
theorem dL_law_368 : decode cL_law 368 = .ok (.iload 6, 2) := by decide +kernel
theorem dL_law_370 : decode cL_law 370 = .ok (.i2l, 1) := by decide +kernel
theorem dL_law_371 : decode cL_law 371 = .ok (.lcmp, 1) := by decide +kernel
theorem dL_law_372 : decode cL_law 372 = .ok (.ifCond .eq 5, 3) := by decide +kernel
theorem dL_law_375 : decode cL_law 375 = .ok (.iconst 0, 1) := by decide +kernel
theorem dL_law_376 : decode cL_law 376 = .ok (.ireturn, 1) := by decide +kernel
theorem dL_law_377 : decode cL_law 377 = .ok (.goto 3185, 3) := by decide +kernel
theorem dL_law_380 : decode cL_law 380 = .ok (.aload_n 1, 1) := by decide +kernel
theorem dL_law_381 : decode cL_law 381 = .ok (.aload_n 0, 1) := by decide +kernel
theorem dL_law_382 : decode cL_law 382 = .ok (.iload 4, 2) := by decide +kernel
theorem dL_law_384 : decode cL_law 384 = .ok (.iconst 1, 1) := by decide +kernel
theorem dL_law_385 : decode cL_law 385 = .ok (.iadd, 1) := by decide +kernel
theorem dL_law_386 : decode cL_law 386 = .ok (.iaload, 1) := by decide +kernel
theorem dL_law_387 : decode cL_law 387 = .ok (.aload_n 3, 1) := by decide +kernel
theorem dL_law_388 : decode cL_law 388 = .ok (.invokestatic 191, 3) := by decide +kernel
theorem dL_law_391 : decode cL_law 391 = .ok (.istore 5, 2) := by decide +kernel
theorem dL_law_393 : decode cL_law 393 = .ok (.aload_n 2, 1) := by decide +kernel
theorem dL_law_394 : decode cL_law 394 = .ok (.aload_n 0, 1) := by decide +kernel
theorem dL_law_395 : decode cL_law 395 = .ok (.iload 4, 2) := by decide +kernel
theorem dL_law_397 : decode cL_law 397 = .ok (.iconst 1, 1) := by decide +kernel
theorem dL_law_398 : decode cL_law 398 = .ok (.iadd, 1) := by decide +kernel
theorem dL_law_399 : decode cL_law 399 = .ok (.iaload, 1) := by decide +kernel
theorem dL_law_400 : decode cL_law 400 = .ok (.invokevirtual 194, 3) := by decide +kernel
theorem dL_law_403 : decode cL_law 403 = .ok (.istore 6, 2) := by decide +kernel
theorem dL_law_405 : decode cL_law 405 = .ok (.aload_n 2, 1) := by decide +kernel
theorem dL_law_406 : decode cL_law 406 = .ok (.invokevirtual 188, 3) := by decide +kernel
theorem dL_law_409 : decode cL_law 409 = .ok (.iload 5, 2) := by decide +kernel
theorem dL_law_411 : decode cL_law 411 = .ok (.if_icmp .eq 5, 3) := by decide +kernel
theorem dL_law_414 : decode cL_law 414 = .ok (.iconst 0, 1) := by decide +kernel
theorem dL_law_415 : decode cL_law 415 = .ok (.ireturn, 1) := by decide +kernel
theorem dL_law_416 : decode cL_law 416 = .ok (.iload 5, 2) := by decide +kernel
theorem dL_law_418 : decode cL_law 418 = .ok (.ifCond .ne 15, 3) := by decide +kernel
theorem dL_law_421 : decode cL_law 421 = .ok (.aload_n 3, 1) := by decide +kernel
theorem dL_law_422 : decode cL_law 422 = .ok (.iconst 0, 1) := by decide +kernel
theorem dL_law_423 : decode cL_law 423 = .ok (.laload, 1) := by decide +kernel
theorem dL_law_424 : decode cL_law 424 = .ok (.iload 6, 2) := by decide +kernel
theorem dL_law_426 : decode cL_law 426 = .ok (.i2l, 1) := by decide +kernel
theorem dL_law_427 : decode cL_law 427 = .ok (.lcmp, 1) := by decide +kernel
theorem dL_law_428 : decode cL_law 428 = .ok (.ifCond .eq 5, 3) := by decide +kernel
theorem dL_law_431 : decode cL_law 431 = .ok (.iconst 0, 1) := by decide +kernel
theorem dL_law_432 : decode cL_law 432 = .ok (.ireturn, 1) := by decide +kernel
theorem dL_law_433 : decode cL_law 433 = .ok (.goto 3129, 3) := by decide +kernel
theorem dL_law_436 : decode cL_law 436 = .ok (.aload_n 1, 1) := by decide +kernel
theorem dL_law_437 : decode cL_law 437 = .ok (.aload_n 3, 1) := by decide +kernel
theorem dL_law_438 : decode cL_law 438 = .ok (.invokestatic 195, 3) := by decide +kernel
theorem dL_law_441 : decode cL_law 441 = .ok (.istore 5, 2) := by decide +kernel
theorem dL_law_443 : decode cL_law 443 = .ok (.aload_n 2, 1) := by decide +kernel
theorem dL_law_444 : decode cL_law 444 = .ok (.invokevirtual 198, 3) := by decide +kernel
theorem dL_law_447 : decode cL_law 447 = .ok (.istore 6, 2) := by decide +kernel
theorem dL_law_449 : decode cL_law 449 = .ok (.aload_n 2, 1) := by decide +kernel
theorem dL_law_450 : decode cL_law 450 = .ok (.invokevirtual 188, 3) := by decide +kernel
theorem dL_law_453 : decode cL_law 453 = .ok (.iload 5, 2) := by decide +kernel
theorem dL_law_455 : decode cL_law 455 = .ok (.if_icmp .eq 5, 3) := by decide +kernel
theorem dL_law_458 : decode cL_law 458 = .ok (.iconst 0, 1) := by decide +kernel
theorem dL_law_459 : decode cL_law 459 = .ok (.ireturn, 1) := by decide +kernel
theorem dL_law_460 : decode cL_law 460 = .ok (.iload 5, 2) := by decide +kernel
theorem dL_law_462 : decode cL_law 462 = .ok (.ifCond .ne 15, 3) := by decide +kernel
theorem dL_law_465 : decode cL_law 465 = .ok (.aload_n 3, 1) := by decide +kernel
theorem dL_law_466 : decode cL_law 466 = .ok (.iconst 0, 1) := by decide +kernel
theorem dL_law_467 : decode cL_law 467 = .ok (.laload, 1) := by decide +kernel
theorem dL_law_468 : decode cL_law 468 = .ok (.iload 6, 2) := by decide +kernel
theorem dL_law_470 : decode cL_law 470 = .ok (.i2l, 1) := by decide +kernel
theorem dL_law_471 : decode cL_law 471 = .ok (.lcmp, 1) := by decide +kernel
theorem dL_law_472 : decode cL_law 472 = .ok (.ifCond .eq 5, 3) := by decide +kernel
theorem dL_law_475 : decode cL_law 475 = .ok (.iconst 0, 1) := by decide +kernel
theorem dL_law_476 : decode cL_law 476 = .ok (.ireturn, 1) := by decide +kernel
theorem dL_law_477 : decode cL_law 477 = .ok (.goto 3085, 3) := by decide +kernel
theorem dL_law_480 : decode cL_law 480 = .ok (.aload_n 1, 1) := by decide +kernel
theorem dL_law_481 : decode cL_law 481 = .ok (.invokevirtual 199, 3) := by decide +kernel
theorem dL_law_484 : decode cL_law 484 = .ok (.aload_n 2, 1) := by decide +kernel
theorem dL_law_485 : decode cL_law 485 = .ok (.invokevirtual 202, 3) := by decide +kernel
theorem dL_law_488 : decode cL_law 488 = .ok (.if_icmp .eq 3074, 3) := by decide +kernel
theorem dL_law_491 : decode cL_law 491 = .ok (.iconst 0, 1) := by decide +kernel
theorem dL_law_492 : decode cL_law 492 = .ok (.ireturn, 1) := by decide +kernel
theorem dL_law_493 : decode cL_law 493 = .ok (.aload_n 1, 1) := by decide +kernel
theorem dL_law_494 : decode cL_law 494 = .ok (.invokevirtual 203, 3) := by decide +kernel
theorem dL_law_497 : decode cL_law 497 = .ok (.aload_n 2, 1) := by decide +kernel
theorem dL_law_498 : decode cL_law 498 = .ok (.invokevirtual 206, 3) := by decide +kernel
theorem dL_law_501 : decode cL_law 501 = .ok (.if_icmp .eq 3061, 3) := by decide +kernel
theorem dL_law_504 : decode cL_law 504 = .ok (.iconst 0, 1) := by decide +kernel
theorem dL_law_505 : decode cL_law 505 = .ok (.ireturn, 1) := by decide +kernel
theorem dL_law_506 : decode cL_law 506 = .ok (.aload_n 1, 1) := by decide +kernel
theorem dL_law_507 : decode cL_law 507 = .ok (.aload_n 0, 1) := by decide +kernel
theorem dL_law_508 : decode cL_law 508 = .ok (.iload 4, 2) := by decide +kernel
theorem dL_law_510 : decode cL_law 510 = .ok (.iconst 1, 1) := by decide +kernel
theorem dL_law_511 : decode cL_law 511 = .ok (.iadd, 1) := by decide +kernel
theorem dL_law_512 : decode cL_law 512 = .ok (.iaload, 1) := by decide +kernel
theorem dL_law_513 : decode cL_law 513 = .ok (.aload_n 3, 1) := by decide +kernel
theorem dL_law_514 : decode cL_law 514 = .ok (.invokestatic 207, 3) := by decide +kernel
theorem dL_law_517 : decode cL_law 517 = .ok (.istore 5, 2) := by decide +kernel
theorem dL_law_519 : decode cL_law 519 = .ok (.aload_n 2, 1) := by decide +kernel
theorem dL_law_520 : decode cL_law 520 = .ok (.aload_n 0, 1) := by decide +kernel
theorem dL_law_521 : decode cL_law 521 = .ok (.iload 4, 2) := by decide +kernel
theorem dL_law_523 : decode cL_law 523 = .ok (.iconst 1, 1) := by decide +kernel
theorem dL_law_524 : decode cL_law 524 = .ok (.iadd, 1) := by decide +kernel
theorem dL_law_525 : decode cL_law 525 = .ok (.iaload, 1) := by decide +kernel
theorem dL_law_526 : decode cL_law 526 = .ok (.invokevirtual 209, 3) := by decide +kernel
theorem dL_law_529 : decode cL_law 529 = .ok (.istore 6, 2) := by decide +kernel
theorem dL_law_531 : decode cL_law 531 = .ok (.aload_n 2, 1) := by decide +kernel
theorem dL_law_532 : decode cL_law 532 = .ok (.invokevirtual 188, 3) := by decide +kernel
theorem dL_law_535 : decode cL_law 535 = .ok (.iload 5, 2) := by decide +kernel
theorem dL_law_537 : decode cL_law 537 = .ok (.if_icmp .eq 5, 3) := by decide +kernel
theorem dL_law_540 : decode cL_law 540 = .ok (.iconst 0, 1) := by decide +kernel
theorem dL_law_541 : decode cL_law 541 = .ok (.ireturn, 1) := by decide +kernel
theorem dL_law_542 : decode cL_law 542 = .ok (.iload 5, 2) := by decide +kernel
theorem dL_law_544 : decode cL_law 544 = .ok (.ifCond .ne 15, 3) := by decide +kernel
theorem dL_law_547 : decode cL_law 547 = .ok (.aload_n 3, 1) := by decide +kernel
theorem dL_law_548 : decode cL_law 548 = .ok (.iconst 0, 1) := by decide +kernel
theorem dL_law_549 : decode cL_law 549 = .ok (.laload, 1) := by decide +kernel
theorem dL_law_550 : decode cL_law 550 = .ok (.iload 6, 2) := by decide +kernel
theorem dL_law_552 : decode cL_law 552 = .ok (.i2l, 1) := by decide +kernel
theorem dL_law_553 : decode cL_law 553 = .ok (.lcmp, 1) := by decide +kernel
theorem dL_law_554 : decode cL_law 554 = .ok (.ifCond .eq 5, 3) := by decide +kernel
theorem dL_law_557 : decode cL_law 557 = .ok (.iconst 0, 1) := by decide +kernel
theorem dL_law_558 : decode cL_law 558 = .ok (.ireturn, 1) := by decide +kernel
theorem dL_law_559 : decode cL_law 559 = .ok (.goto 3003, 3) := by decide +kernel
theorem dL_law_562 : decode cL_law 562 = .ok (.aload_n 1, 1) := by decide +kernel
theorem dL_law_563 : decode cL_law 563 = .ok (.aload_n 0, 1) := by decide +kernel
theorem dL_law_564 : decode cL_law 564 = .ok (.iload 4, 2) := by decide +kernel
theorem dL_law_566 : decode cL_law 566 = .ok (.iconst 1, 1) := by decide +kernel
theorem dL_law_567 : decode cL_law 567 = .ok (.iadd, 1) := by decide +kernel
theorem dL_law_568 : decode cL_law 568 = .ok (.iaload, 1) := by decide +kernel
theorem dL_law_569 : decode cL_law 569 = .ok (.aload_n 3, 1) := by decide +kernel
theorem dL_law_570 : decode cL_law 570 = .ok (.invokestatic 210, 3) := by decide +kernel
theorem dL_law_573 : decode cL_law 573 = .ok (.istore 5, 2) := by decide +kernel
theorem dL_law_575 : decode cL_law 575 = .ok (.aload_n 2, 1) := by decide +kernel
theorem dL_law_576 : decode cL_law 576 = .ok (.aload_n 0, 1) := by decide +kernel
theorem dL_law_577 : decode cL_law 577 = .ok (.iload 4, 2) := by decide +kernel
theorem dL_law_579 : decode cL_law 579 = .ok (.iconst 1, 1) := by decide +kernel
theorem dL_law_580 : decode cL_law 580 = .ok (.iadd, 1) := by decide +kernel
theorem dL_law_581 : decode cL_law 581 = .ok (.iaload, 1) := by decide +kernel
theorem dL_law_582 : decode cL_law 582 = .ok (.invokevirtual 212, 3) := by decide +kernel
theorem dL_law_585 : decode cL_law 585 = .ok (.istore 6, 2) := by decide +kernel
theorem dL_law_587 : decode cL_law 587 = .ok (.aload_n 2, 1) := by decide +kernel
theorem dL_law_588 : decode cL_law 588 = .ok (.invokevirtual 188, 3) := by decide +kernel
theorem dL_law_591 : decode cL_law 591 = .ok (.iload 5, 2) := by decide +kernel
theorem dL_law_593 : decode cL_law 593 = .ok (.if_icmp .eq 5, 3) := by decide +kernel
theorem dL_law_596 : decode cL_law 596 = .ok (.iconst 0, 1) := by decide +kernel
theorem dL_law_597 : decode cL_law 597 = .ok (.ireturn, 1) := by decide +kernel
theorem dL_law_598 : decode cL_law 598 = .ok (.iload 5, 2) := by decide +kernel
theorem dL_law_600 : decode cL_law 600 = .ok (.ifCond .ne 15, 3) := by decide +kernel
theorem dL_law_603 : decode cL_law 603 = .ok (.aload_n 3, 1) := by decide +kernel
theorem dL_law_604 : decode cL_law 604 = .ok (.iconst 0, 1) := by decide +kernel
theorem dL_law_605 : decode cL_law 605 = .ok (.laload, 1) := by decide +kernel
theorem dL_law_606 : decode cL_law 606 = .ok (.iload 6, 2) := by decide +kernel
theorem dL_law_608 : decode cL_law 608 = .ok (.i2l, 1) := by decide +kernel
theorem dL_law_609 : decode cL_law 609 = .ok (.lcmp, 1) := by decide +kernel
theorem dL_law_610 : decode cL_law 610 = .ok (.ifCond .eq 5, 3) := by decide +kernel
theorem dL_law_613 : decode cL_law 613 = .ok (.iconst 0, 1) := by decide +kernel
theorem dL_law_614 : decode cL_law 614 = .ok (.ireturn, 1) := by decide +kernel
theorem dL_law_615 : decode cL_law 615 = .ok (.goto 2947, 3) := by decide +kernel
theorem dL_law_618 : decode cL_law 618 = .ok (.aload_n 1, 1) := by decide +kernel
theorem dL_law_619 : decode cL_law 619 = .ok (.invokevirtual 213, 3) := by decide +kernel
theorem dL_law_622 : decode cL_law 622 = .ok (.aload_n 2, 1) := by decide +kernel
theorem dL_law_623 : decode cL_law 623 = .ok (.invokevirtual 216, 3) := by decide +kernel
theorem dL_law_626 : decode cL_law 626 = .ok (.if_icmp .eq 2936, 3) := by decide +kernel
theorem dL_law_629 : decode cL_law 629 = .ok (.iconst 0, 1) := by decide +kernel
theorem dL_law_630 : decode cL_law 630 = .ok (.ireturn, 1) := by decide +kernel
theorem dL_law_631 : decode cL_law 631 = .ok (.aload_n 1, 1) := by decide +kernel
theorem dL_law_632 : decode cL_law 632 = .ok (.aload_n 0, 1) := by decide +kernel
theorem dL_law_633 : decode cL_law 633 = .ok (.iload 4, 2) := by decide +kernel
theorem dL_law_635 : decode cL_law 635 = .ok (.iconst 1, 1) := by decide +kernel
theorem dL_law_636 : decode cL_law 636 = .ok (.iadd, 1) := by decide +kernel
theorem dL_law_637 : decode cL_law 637 = .ok (.iaload, 1) := by decide +kernel
theorem dL_law_638 : decode cL_law 638 = .ok (.aload_n 0, 1) := by decide +kernel
theorem dL_law_639 : decode cL_law 639 = .ok (.iload 4, 2) := by decide +kernel
theorem dL_law_641 : decode cL_law 641 = .ok (.iconst 2, 1) := by decide +kernel
theorem dL_law_642 : decode cL_law 642 = .ok (.iadd, 1) := by decide +kernel
theorem dL_law_643 : decode cL_law 643 = .ok (.iaload, 1) := by decide +kernel
theorem dL_law_644 : decode cL_law 644 = .ok (.aload_n 3, 1) := by decide +kernel
theorem dL_law_645 : decode cL_law 645 = .ok (.invokestatic 217, 3) := by decide +kernel
theorem dL_law_648 : decode cL_law 648 = .ok (.istore 5, 2) := by decide +kernel
theorem dL_law_650 : decode cL_law 650 = .ok (.aload_n 2, 1) := by decide +kernel
theorem dL_law_651 : decode cL_law 651 = .ok (.aload_n 0, 1) := by decide +kernel
theorem dL_law_652 : decode cL_law 652 = .ok (.iload 4, 2) := by decide +kernel
theorem dL_law_654 : decode cL_law 654 = .ok (.iconst 1, 1) := by decide +kernel
theorem dL_law_655 : decode cL_law 655 = .ok (.iadd, 1) := by decide +kernel
theorem dL_law_656 : decode cL_law 656 = .ok (.iaload, 1) := by decide +kernel
theorem dL_law_657 : decode cL_law 657 = .ok (.aload_n 0, 1) := by decide +kernel
theorem dL_law_658 : decode cL_law 658 = .ok (.iload 4, 2) := by decide +kernel
theorem dL_law_660 : decode cL_law 660 = .ok (.iconst 2, 1) := by decide +kernel
theorem dL_law_661 : decode cL_law 661 = .ok (.iadd, 1) := by decide +kernel
theorem dL_law_662 : decode cL_law 662 = .ok (.iaload, 1) := by decide +kernel
theorem dL_law_663 : decode cL_law 663 = .ok (.invokevirtual 220, 3) := by decide +kernel
theorem dL_law_666 : decode cL_law 666 = .ok (.istore 6, 2) := by decide +kernel
theorem dL_law_668 : decode cL_law 668 = .ok (.aload_n 2, 1) := by decide +kernel
theorem dL_law_669 : decode cL_law 669 = .ok (.invokevirtual 188, 3) := by decide +kernel
theorem dL_law_672 : decode cL_law 672 = .ok (.iload 5, 2) := by decide +kernel
theorem dL_law_674 : decode cL_law 674 = .ok (.if_icmp .eq 5, 3) := by decide +kernel
theorem dL_law_677 : decode cL_law 677 = .ok (.iconst 0, 1) := by decide +kernel
theorem dL_law_678 : decode cL_law 678 = .ok (.ireturn, 1) := by decide +kernel
theorem dL_law_679 : decode cL_law 679 = .ok (.iload 5, 2) := by decide +kernel
theorem dL_law_681 : decode cL_law 681 = .ok (.ifCond .ne 15, 3) := by decide +kernel
theorem dL_law_684 : decode cL_law 684 = .ok (.aload_n 3, 1) := by decide +kernel
theorem dL_law_685 : decode cL_law 685 = .ok (.iconst 0, 1) := by decide +kernel
theorem dL_law_686 : decode cL_law 686 = .ok (.laload, 1) := by decide +kernel
theorem dL_law_687 : decode cL_law 687 = .ok (.iload 6, 2) := by decide +kernel
theorem dL_law_689 : decode cL_law 689 = .ok (.i2l, 1) := by decide +kernel
theorem dL_law_690 : decode cL_law 690 = .ok (.lcmp, 1) := by decide +kernel
theorem dL_law_691 : decode cL_law 691 = .ok (.ifCond .eq 5, 3) := by decide +kernel
theorem dL_law_694 : decode cL_law 694 = .ok (.iconst 0, 1) := by decide +kernel
theorem dL_law_695 : decode cL_law 695 = .ok (.ireturn, 1) := by decide +kernel
theorem dL_law_696 : decode cL_law 696 = .ok (.goto 2866, 3) := by decide +kernel
theorem dL_law_699 : decode cL_law 699 = .ok (.aload_n 1, 1) := by decide +kernel
theorem dL_law_700 : decode cL_law 700 = .ok (.aload_n 0, 1) := by decide +kernel
theorem dL_law_701 : decode cL_law 701 = .ok (.iload 4, 2) := by decide +kernel
theorem dL_law_703 : decode cL_law 703 = .ok (.iconst 1, 1) := by decide +kernel
theorem dL_law_704 : decode cL_law 704 = .ok (.iadd, 1) := by decide +kernel
theorem dL_law_705 : decode cL_law 705 = .ok (.iaload, 1) := by decide +kernel
theorem dL_law_706 : decode cL_law 706 = .ok (.aload_n 3, 1) := by decide +kernel
theorem dL_law_707 : decode cL_law 707 = .ok (.invokestatic 221, 3) := by decide +kernel
theorem dL_law_710 : decode cL_law 710 = .ok (.istore 5, 2) := by decide +kernel
theorem dL_law_712 : decode cL_law 712 = .ok (.aload_n 2, 1) := by decide +kernel
theorem dL_law_713 : decode cL_law 713 = .ok (.aload_n 0, 1) := by decide +kernel
theorem dL_law_714 : decode cL_law 714 = .ok (.iload 4, 2) := by decide +kernel
theorem dL_law_716 : decode cL_law 716 = .ok (.iconst 1, 1) := by decide +kernel
theorem dL_law_717 : decode cL_law 717 = .ok (.iadd, 1) := by decide +kernel
theorem dL_law_718 : decode cL_law 718 = .ok (.iaload, 1) := by decide +kernel
theorem dL_law_719 : decode cL_law 719 = .ok (.invokevirtual 223, 3) := by decide +kernel
theorem dL_law_722 : decode cL_law 722 = .ok (.istore 6, 2) := by decide +kernel
theorem dL_law_724 : decode cL_law 724 = .ok (.aload_n 2, 1) := by decide +kernel
theorem dL_law_725 : decode cL_law 725 = .ok (.invokevirtual 188, 3) := by decide +kernel
theorem dL_law_728 : decode cL_law 728 = .ok (.iload 5, 2) := by decide +kernel
theorem dL_law_730 : decode cL_law 730 = .ok (.if_icmp .eq 5, 3) := by decide +kernel
theorem dL_law_733 : decode cL_law 733 = .ok (.iconst 0, 1) := by decide +kernel
theorem dL_law_734 : decode cL_law 734 = .ok (.ireturn, 1) := by decide +kernel
theorem dL_law_735 : decode cL_law 735 = .ok (.iload 5, 2) := by decide +kernel
theorem dL_law_737 : decode cL_law 737 = .ok (.ifCond .ne 15, 3) := by decide +kernel
theorem dL_law_740 : decode cL_law 740 = .ok (.aload_n 3, 1) := by decide +kernel
theorem dL_law_741 : decode cL_law 741 = .ok (.iconst 0, 1) := by decide +kernel
theorem dL_law_742 : decode cL_law 742 = .ok (.laload, 1) := by decide +kernel
theorem dL_law_743 : decode cL_law 743 = .ok (.iload 6, 2) := by decide +kernel
theorem dL_law_745 : decode cL_law 745 = .ok (.i2l, 1) := by decide +kernel
theorem dL_law_746 : decode cL_law 746 = .ok (.lcmp, 1) := by decide +kernel
theorem dL_law_747 : decode cL_law 747 = .ok (.ifCond .eq 5, 3) := by decide +kernel
theorem dL_law_750 : decode cL_law 750 = .ok (.iconst 0, 1) := by decide +kernel
theorem dL_law_751 : decode cL_law 751 = .ok (.ireturn, 1) := by decide +kernel
theorem dL_law_752 : decode cL_law 752 = .ok (.goto 2810, 3) := by decide +kernel
theorem dL_law_755 : decode cL_law 755 = .ok (.aload_n 1, 1) := by decide +kernel
theorem dL_law_756 : decode cL_law 756 = .ok (.aload_n 0, 1) := by decide +kernel
theorem dL_law_757 : decode cL_law 757 = .ok (.iload 4, 2) := by decide +kernel
theorem dL_law_759 : decode cL_law 759 = .ok (.iconst 1, 1) := by decide +kernel
theorem dL_law_760 : decode cL_law 760 = .ok (.iadd, 1) := by decide +kernel
theorem dL_law_761 : decode cL_law 761 = .ok (.iaload, 1) := by decide +kernel
theorem dL_law_762 : decode cL_law 762 = .ok (.aload_n 3, 1) := by decide +kernel
theorem dL_law_763 : decode cL_law 763 = .ok (.invokestatic 224, 3) := by decide +kernel
theorem dL_law_766 : decode cL_law 766 = .ok (.istore 5, 2) := by decide +kernel
theorem dL_law_768 : decode cL_law 768 = .ok (.aload_n 2, 1) := by decide +kernel
theorem dL_law_769 : decode cL_law 769 = .ok (.aload_n 0, 1) := by decide +kernel
theorem dL_law_770 : decode cL_law 770 = .ok (.iload 4, 2) := by decide +kernel
theorem dL_law_772 : decode cL_law 772 = .ok (.iconst 1, 1) := by decide +kernel
theorem dL_law_773 : decode cL_law 773 = .ok (.iadd, 1) := by decide +kernel
theorem dL_law_774 : decode cL_law 774 = .ok (.iaload, 1) := by decide +kernel
theorem dL_law_775 : decode cL_law 775 = .ok (.invokevirtual 226, 3) := by decide +kernel
theorem dL_law_778 : decode cL_law 778 = .ok (.istore 6, 2) := by decide +kernel
theorem dL_law_780 : decode cL_law 780 = .ok (.aload_n 2, 1) := by decide +kernel
theorem dL_law_781 : decode cL_law 781 = .ok (.invokevirtual 188, 3) := by decide +kernel
theorem dL_law_784 : decode cL_law 784 = .ok (.iload 5, 2) := by decide +kernel
theorem dL_law_786 : decode cL_law 786 = .ok (.if_icmp .eq 5, 3) := by decide +kernel
theorem dL_law_789 : decode cL_law 789 = .ok (.iconst 0, 1) := by decide +kernel
theorem dL_law_790 : decode cL_law 790 = .ok (.ireturn, 1) := by decide +kernel
theorem dL_law_791 : decode cL_law 791 = .ok (.iload 5, 2) := by decide +kernel
theorem dL_law_793 : decode cL_law 793 = .ok (.ifCond .ne 15, 3) := by decide +kernel
theorem dL_law_796 : decode cL_law 796 = .ok (.aload_n 3, 1) := by decide +kernel
theorem dL_law_797 : decode cL_law 797 = .ok (.iconst 0, 1) := by decide +kernel
theorem dL_law_798 : decode cL_law 798 = .ok (.laload, 1) := by decide +kernel
theorem dL_law_799 : decode cL_law 799 = .ok (.iload 6, 2) := by decide +kernel
theorem dL_law_801 : decode cL_law 801 = .ok (.i2l, 1) := by decide +kernel
theorem dL_law_802 : decode cL_law 802 = .ok (.lcmp, 1) := by decide +kernel
theorem dL_law_803 : decode cL_law 803 = .ok (.ifCond .eq 5, 3) := by decide +kernel
theorem dL_law_806 : decode cL_law 806 = .ok (.iconst 0, 1) := by decide +kernel
theorem dL_law_807 : decode cL_law 807 = .ok (.ireturn, 1) := by decide +kernel
theorem dL_law_808 : decode cL_law 808 = .ok (.goto 2754, 3) := by decide +kernel
theorem dL_law_811 : decode cL_law 811 = .ok (.aload_n 1, 1) := by decide +kernel
theorem dL_law_812 : decode cL_law 812 = .ok (.aload_n 0, 1) := by decide +kernel
theorem dL_law_813 : decode cL_law 813 = .ok (.iload 4, 2) := by decide +kernel
theorem dL_law_815 : decode cL_law 815 = .ok (.iconst 1, 1) := by decide +kernel
theorem dL_law_816 : decode cL_law 816 = .ok (.iadd, 1) := by decide +kernel
theorem dL_law_817 : decode cL_law 817 = .ok (.iaload, 1) := by decide +kernel
theorem dL_law_818 : decode cL_law 818 = .ok (.aload_n 0, 1) := by decide +kernel
theorem dL_law_819 : decode cL_law 819 = .ok (.iload 4, 2) := by decide +kernel
theorem dL_law_821 : decode cL_law 821 = .ok (.iconst 2, 1) := by decide +kernel
theorem dL_law_822 : decode cL_law 822 = .ok (.iadd, 1) := by decide +kernel
theorem dL_law_823 : decode cL_law 823 = .ok (.iaload, 1) := by decide +kernel
theorem dL_law_824 : decode cL_law 824 = .ok (.aload_n 3, 1) := by decide +kernel
theorem dL_law_825 : decode cL_law 825 = .ok (.invokestatic 227, 3) := by decide +kernel
theorem dL_law_828 : decode cL_law 828 = .ok (.istore 5, 2) := by decide +kernel
theorem dL_law_830 : decode cL_law 830 = .ok (.aload_n 2, 1) := by decide +kernel
theorem dL_law_831 : decode cL_law 831 = .ok (.aload_n 0, 1) := by decide +kernel
theorem dL_law_832 : decode cL_law 832 = .ok (.iload 4, 2) := by decide +kernel
theorem dL_law_834 : decode cL_law 834 = .ok (.iconst 1, 1) := by decide +kernel
theorem dL_law_835 : decode cL_law 835 = .ok (.iadd, 1) := by decide +kernel
theorem dL_law_836 : decode cL_law 836 = .ok (.iaload, 1) := by decide +kernel
theorem dL_law_837 : decode cL_law 837 = .ok (.aload_n 0, 1) := by decide +kernel
theorem dL_law_838 : decode cL_law 838 = .ok (.iload 4, 2) := by decide +kernel
theorem dL_law_840 : decode cL_law 840 = .ok (.iconst 2, 1) := by decide +kernel
theorem dL_law_841 : decode cL_law 841 = .ok (.iadd, 1) := by decide +kernel
theorem dL_law_842 : decode cL_law 842 = .ok (.iaload, 1) := by decide +kernel
theorem dL_law_843 : decode cL_law 843 = .ok (.invokevirtual 229, 3) := by decide +kernel
theorem dL_law_846 : decode cL_law 846 = .ok (.istore 6, 2) := by decide +kernel
theorem dL_law_848 : decode cL_law 848 = .ok (.aload_n 2, 1) := by decide +kernel
theorem dL_law_849 : decode cL_law 849 = .ok (.invokevirtual 188, 3) := by decide +kernel
theorem dL_law_852 : decode cL_law 852 = .ok (.iload 5, 2) := by decide +kernel
theorem dL_law_854 : decode cL_law 854 = .ok (.if_icmp .eq 5, 3) := by decide +kernel
theorem dL_law_857 : decode cL_law 857 = .ok (.iconst 0, 1) := by decide +kernel
theorem dL_law_858 : decode cL_law 858 = .ok (.ireturn, 1) := by decide +kernel
theorem dL_law_859 : decode cL_law 859 = .ok (.iload 5, 2) := by decide +kernel
theorem dL_law_861 : decode cL_law 861 = .ok (.ifCond .ne 15, 3) := by decide +kernel
theorem dL_law_864 : decode cL_law 864 = .ok (.aload_n 3, 1) := by decide +kernel
theorem dL_law_865 : decode cL_law 865 = .ok (.iconst 0, 1) := by decide +kernel
theorem dL_law_866 : decode cL_law 866 = .ok (.laload, 1) := by decide +kernel
theorem dL_law_867 : decode cL_law 867 = .ok (.iload 6, 2) := by decide +kernel
theorem dL_law_869 : decode cL_law 869 = .ok (.i2l, 1) := by decide +kernel
theorem dL_law_870 : decode cL_law 870 = .ok (.lcmp, 1) := by decide +kernel
theorem dL_law_871 : decode cL_law 871 = .ok (.ifCond .eq 5, 3) := by decide +kernel
theorem dL_law_874 : decode cL_law 874 = .ok (.iconst 0, 1) := by decide +kernel
theorem dL_law_875 : decode cL_law 875 = .ok (.ireturn, 1) := by decide +kernel
theorem dL_law_876 : decode cL_law 876 = .ok (.goto 2686, 3) := by decide +kernel
theorem dL_law_879 : decode cL_law 879 = .ok (.aload_n 1, 1) := by decide +kernel
theorem dL_law_880 : decode cL_law 880 = .ok (.aload_n 0, 1) := by decide +kernel
theorem dL_law_881 : decode cL_law 881 = .ok (.iload 4, 2) := by decide +kernel
theorem dL_law_883 : decode cL_law 883 = .ok (.iconst 1, 1) := by decide +kernel
theorem dL_law_884 : decode cL_law 884 = .ok (.iadd, 1) := by decide +kernel
theorem dL_law_885 : decode cL_law 885 = .ok (.iaload, 1) := by decide +kernel
theorem dL_law_886 : decode cL_law 886 = .ok (.aload_n 3, 1) := by decide +kernel
theorem dL_law_887 : decode cL_law 887 = .ok (.invokestatic 230, 3) := by decide +kernel
theorem dL_law_890 : decode cL_law 890 = .ok (.istore 5, 2) := by decide +kernel
theorem dL_law_892 : decode cL_law 892 = .ok (.aload_n 2, 1) := by decide +kernel
theorem dL_law_893 : decode cL_law 893 = .ok (.aload_n 0, 1) := by decide +kernel
theorem dL_law_894 : decode cL_law 894 = .ok (.iload 4, 2) := by decide +kernel
theorem dL_law_896 : decode cL_law 896 = .ok (.iconst 1, 1) := by decide +kernel
theorem dL_law_897 : decode cL_law 897 = .ok (.iadd, 1) := by decide +kernel
theorem dL_law_898 : decode cL_law 898 = .ok (.iaload, 1) := by decide +kernel
theorem dL_law_899 : decode cL_law 899 = .ok (.invokevirtual 232, 3) := by decide +kernel
theorem dL_law_902 : decode cL_law 902 = .ok (.istore 6, 2) := by decide +kernel
theorem dL_law_904 : decode cL_law 904 = .ok (.aload_n 2, 1) := by decide +kernel
theorem dL_law_905 : decode cL_law 905 = .ok (.invokevirtual 188, 3) := by decide +kernel
theorem dL_law_908 : decode cL_law 908 = .ok (.iload 5, 2) := by decide +kernel
theorem dL_law_910 : decode cL_law 910 = .ok (.if_icmp .eq 5, 3) := by decide +kernel
theorem dL_law_913 : decode cL_law 913 = .ok (.iconst 0, 1) := by decide +kernel
theorem dL_law_914 : decode cL_law 914 = .ok (.ireturn, 1) := by decide +kernel
theorem dL_law_915 : decode cL_law 915 = .ok (.iload 5, 2) := by decide +kernel
theorem dL_law_917 : decode cL_law 917 = .ok (.ifCond .ne 15, 3) := by decide +kernel
theorem dL_law_920 : decode cL_law 920 = .ok (.aload_n 3, 1) := by decide +kernel
theorem dL_law_921 : decode cL_law 921 = .ok (.iconst 0, 1) := by decide +kernel
theorem dL_law_922 : decode cL_law 922 = .ok (.laload, 1) := by decide +kernel
theorem dL_law_923 : decode cL_law 923 = .ok (.iload 6, 2) := by decide +kernel
theorem dL_law_925 : decode cL_law 925 = .ok (.i2l, 1) := by decide +kernel
theorem dL_law_926 : decode cL_law 926 = .ok (.lcmp, 1) := by decide +kernel
theorem dL_law_927 : decode cL_law 927 = .ok (.ifCond .eq 5, 3) := by decide +kernel
theorem dL_law_930 : decode cL_law 930 = .ok (.iconst 0, 1) := by decide +kernel
theorem dL_law_931 : decode cL_law 931 = .ok (.ireturn, 1) := by decide +kernel
theorem dL_law_932 : decode cL_law 932 = .ok (.goto 2630, 3) := by decide +kernel
theorem dL_law_935 : decode cL_law 935 = .ok (.aload_n 1, 1) := by decide +kernel
theorem dL_law_936 : decode cL_law 936 = .ok (.aload_n 0, 1) := by decide +kernel
theorem dL_law_937 : decode cL_law 937 = .ok (.iload 4, 2) := by decide +kernel
theorem dL_law_939 : decode cL_law 939 = .ok (.iconst 1, 1) := by decide +kernel
theorem dL_law_940 : decode cL_law 940 = .ok (.iadd, 1) := by decide +kernel
theorem dL_law_941 : decode cL_law 941 = .ok (.iaload, 1) := by decide +kernel
theorem dL_law_942 : decode cL_law 942 = .ok (.aload_n 3, 1) := by decide +kernel
theorem dL_law_943 : decode cL_law 943 = .ok (.invokestatic 233, 3) := by decide +kernel
theorem dL_law_946 : decode cL_law 946 = .ok (.istore 5, 2) := by decide +kernel
theorem dL_law_948 : decode cL_law 948 = .ok (.aload_n 2, 1) := by decide +kernel
theorem dL_law_949 : decode cL_law 949 = .ok (.aload_n 0, 1) := by decide +kernel
theorem dL_law_950 : decode cL_law 950 = .ok (.iload 4, 2) := by decide +kernel
theorem dL_law_952 : decode cL_law 952 = .ok (.iconst 1, 1) := by decide +kernel
theorem dL_law_953 : decode cL_law 953 = .ok (.iadd, 1) := by decide +kernel
theorem dL_law_954 : decode cL_law 954 = .ok (.iaload, 1) := by decide +kernel
theorem dL_law_955 : decode cL_law 955 = .ok (.invokevirtual 235, 3) := by decide +kernel
theorem dL_law_958 : decode cL_law 958 = .ok (.istore 6, 2) := by decide +kernel
theorem dL_law_960 : decode cL_law 960 = .ok (.aload_n 2, 1) := by decide +kernel
theorem dL_law_961 : decode cL_law 961 = .ok (.invokevirtual 188, 3) := by decide +kernel
theorem dL_law_964 : decode cL_law 964 = .ok (.iload 5, 2) := by decide +kernel
theorem dL_law_966 : decode cL_law 966 = .ok (.if_icmp .eq 5, 3) := by decide +kernel
theorem dL_law_969 : decode cL_law 969 = .ok (.iconst 0, 1) := by decide +kernel
theorem dL_law_970 : decode cL_law 970 = .ok (.ireturn, 1) := by decide +kernel
theorem dL_law_971 : decode cL_law 971 = .ok (.iload 5, 2) := by decide +kernel
theorem dL_law_973 : decode cL_law 973 = .ok (.ifCond .ne 15, 3) := by decide +kernel
theorem dL_law_976 : decode cL_law 976 = .ok (.aload_n 3, 1) := by decide +kernel
theorem dL_law_977 : decode cL_law 977 = .ok (.iconst 0, 1) := by decide +kernel
theorem dL_law_978 : decode cL_law 978 = .ok (.laload, 1) := by decide +kernel
theorem dL_law_979 : decode cL_law 979 = .ok (.iload 6, 2) := by decide +kernel
theorem dL_law_981 : decode cL_law 981 = .ok (.i2l, 1) := by decide +kernel
theorem dL_law_982 : decode cL_law 982 = .ok (.lcmp, 1) := by decide +kernel
theorem dL_law_983 : decode cL_law 983 = .ok (.ifCond .eq 5, 3) := by decide +kernel
theorem dL_law_986 : decode cL_law 986 = .ok (.iconst 0, 1) := by decide +kernel
theorem dL_law_987 : decode cL_law 987 = .ok (.ireturn, 1) := by decide +kernel
theorem dL_law_988 : decode cL_law 988 = .ok (.goto 2574, 3) := by decide +kernel
theorem dL_law_991 : decode cL_law 991 = .ok (.aload_n 1, 1) := by decide +kernel
theorem dL_law_992 : decode cL_law 992 = .ok (.aload_n 0, 1) := by decide +kernel
theorem dL_law_993 : decode cL_law 993 = .ok (.iload 4, 2) := by decide +kernel
theorem dL_law_995 : decode cL_law 995 = .ok (.iconst 1, 1) := by decide +kernel
theorem dL_law_996 : decode cL_law 996 = .ok (.iadd, 1) := by decide +kernel
theorem dL_law_997 : decode cL_law 997 = .ok (.iaload, 1) := by decide +kernel
theorem dL_law_998 : decode cL_law 998 = .ok (.aload_n 3, 1) := by decide +kernel
theorem dL_law_999 : decode cL_law 999 = .ok (.invokestatic 236, 3) := by decide +kernel
theorem dL_law_1002 : decode cL_law 1002 = .ok (.istore 5, 2) := by decide +kernel
theorem dL_law_1004 : decode cL_law 1004 = .ok (.aload_n 2, 1) := by decide +kernel
theorem dL_law_1005 : decode cL_law 1005 = .ok (.aload_n 0, 1) := by decide +kernel
theorem dL_law_1006 : decode cL_law 1006 = .ok (.iload 4, 2) := by decide +kernel
theorem dL_law_1008 : decode cL_law 1008 = .ok (.iconst 1, 1) := by decide +kernel
theorem dL_law_1009 : decode cL_law 1009 = .ok (.iadd, 1) := by decide +kernel
theorem dL_law_1010 : decode cL_law 1010 = .ok (.iaload, 1) := by decide +kernel
theorem dL_law_1011 : decode cL_law 1011 = .ok (.invokevirtual 238, 3) := by decide +kernel
theorem dL_law_1014 : decode cL_law 1014 = .ok (.istore 6, 2) := by decide +kernel
theorem dL_law_1016 : decode cL_law 1016 = .ok (.aload_n 2, 1) := by decide +kernel
theorem dL_law_1017 : decode cL_law 1017 = .ok (.invokevirtual 188, 3) := by decide +kernel
theorem dL_law_1020 : decode cL_law 1020 = .ok (.iload 5, 2) := by decide +kernel
theorem dL_law_1022 : decode cL_law 1022 = .ok (.if_icmp .eq 5, 3) := by decide +kernel
theorem dL_law_1025 : decode cL_law 1025 = .ok (.iconst 0, 1) := by decide +kernel
theorem dL_law_1026 : decode cL_law 1026 = .ok (.ireturn, 1) := by decide +kernel
theorem dL_law_1027 : decode cL_law 1027 = .ok (.iload 5, 2) := by decide +kernel
theorem dL_law_1029 : decode cL_law 1029 = .ok (.ifCond .ne 15, 3) := by decide +kernel
theorem dL_law_1032 : decode cL_law 1032 = .ok (.aload_n 3, 1) := by decide +kernel
theorem dL_law_1033 : decode cL_law 1033 = .ok (.iconst 0, 1) := by decide +kernel
theorem dL_law_1034 : decode cL_law 1034 = .ok (.laload, 1) := by decide +kernel
theorem dL_law_1035 : decode cL_law 1035 = .ok (.iload 6, 2) := by decide +kernel
theorem dL_law_1037 : decode cL_law 1037 = .ok (.i2l, 1) := by decide +kernel
theorem dL_law_1038 : decode cL_law 1038 = .ok (.lcmp, 1) := by decide +kernel
theorem dL_law_1039 : decode cL_law 1039 = .ok (.ifCond .eq 5, 3) := by decide +kernel
theorem dL_law_1042 : decode cL_law 1042 = .ok (.iconst 0, 1) := by decide +kernel
theorem dL_law_1043 : decode cL_law 1043 = .ok (.ireturn, 1) := by decide +kernel
theorem dL_law_1044 : decode cL_law 1044 = .ok (.goto 2518, 3) := by decide +kernel
theorem dL_law_1047 : decode cL_law 1047 = .ok (.aload_n 1, 1) := by decide +kernel
theorem dL_law_1048 : decode cL_law 1048 = .ok (.aload_n 0, 1) := by decide +kernel
theorem dL_law_1049 : decode cL_law 1049 = .ok (.iload 4, 2) := by decide +kernel
theorem dL_law_1051 : decode cL_law 1051 = .ok (.iconst 1, 1) := by decide +kernel
theorem dL_law_1052 : decode cL_law 1052 = .ok (.iadd, 1) := by decide +kernel
theorem dL_law_1053 : decode cL_law 1053 = .ok (.iaload, 1) := by decide +kernel
theorem dL_law_1054 : decode cL_law 1054 = .ok (.aload_n 0, 1) := by decide +kernel
theorem dL_law_1055 : decode cL_law 1055 = .ok (.iload 4, 2) := by decide +kernel
theorem dL_law_1057 : decode cL_law 1057 = .ok (.iconst 2, 1) := by decide +kernel
theorem dL_law_1058 : decode cL_law 1058 = .ok (.iadd, 1) := by decide +kernel
theorem dL_law_1059 : decode cL_law 1059 = .ok (.iaload, 1) := by decide +kernel
theorem dL_law_1060 : decode cL_law 1060 = .ok (.aload_n 3, 1) := by decide +kernel
theorem dL_law_1061 : decode cL_law 1061 = .ok (.invokestatic 239, 3) := by decide +kernel
theorem dL_law_1064 : decode cL_law 1064 = .ok (.istore 5, 2) := by decide +kernel
theorem dL_law_1066 : decode cL_law 1066 = .ok (.aload_n 2, 1) := by decide +kernel
theorem dL_law_1067 : decode cL_law 1067 = .ok (.aload_n 0, 1) := by decide +kernel
theorem dL_law_1068 : decode cL_law 1068 = .ok (.iload 4, 2) := by decide +kernel
theorem dL_law_1070 : decode cL_law 1070 = .ok (.iconst 1, 1) := by decide +kernel
theorem dL_law_1071 : decode cL_law 1071 = .ok (.iadd, 1) := by decide +kernel
theorem dL_law_1072 : decode cL_law 1072 = .ok (.iaload, 1) := by decide +kernel
theorem dL_law_1073 : decode cL_law 1073 = .ok (.aload_n 0, 1) := by decide +kernel
theorem dL_law_1074 : decode cL_law 1074 = .ok (.iload 4, 2) := by decide +kernel
theorem dL_law_1076 : decode cL_law 1076 = .ok (.iconst 2, 1) := by decide +kernel
theorem dL_law_1077 : decode cL_law 1077 = .ok (.iadd, 1) := by decide +kernel
theorem dL_law_1078 : decode cL_law 1078 = .ok (.iaload, 1) := by decide +kernel
theorem dL_law_1079 : decode cL_law 1079 = .ok (.invokevirtual 241, 3) := by decide +kernel
theorem dL_law_1082 : decode cL_law 1082 = .ok (.istore 6, 2) := by decide +kernel
theorem dL_law_1084 : decode cL_law 1084 = .ok (.aload_n 2, 1) := by decide +kernel
theorem dL_law_1085 : decode cL_law 1085 = .ok (.invokevirtual 188, 3) := by decide +kernel
theorem dL_law_1088 : decode cL_law 1088 = .ok (.iload 5, 2) := by decide +kernel
theorem dL_law_1090 : decode cL_law 1090 = .ok (.if_icmp .eq 5, 3) := by decide +kernel
theorem dL_law_1093 : decode cL_law 1093 = .ok (.iconst 0, 1) := by decide +kernel
theorem dL_law_1094 : decode cL_law 1094 = .ok (.ireturn, 1) := by decide +kernel
theorem dL_law_1095 : decode cL_law 1095 = .ok (.iload 5, 2) := by decide +kernel
theorem dL_law_1097 : decode cL_law 1097 = .ok (.ifCond .ne 15, 3) := by decide +kernel
theorem dL_law_1100 : decode cL_law 1100 = .ok (.aload_n 3, 1) := by decide +kernel
theorem dL_law_1101 : decode cL_law 1101 = .ok (.iconst 0, 1) := by decide +kernel
theorem dL_law_1102 : decode cL_law 1102 = .ok (.laload, 1) := by decide +kernel
theorem dL_law_1103 : decode cL_law 1103 = .ok (.iload 6, 2) := by decide +kernel
theorem dL_law_1105 : decode cL_law 1105 = .ok (.i2l, 1) := by decide +kernel
theorem dL_law_1106 : decode cL_law 1106 = .ok (.lcmp, 1) := by decide +kernel
theorem dL_law_1107 : decode cL_law 1107 = .ok (.ifCond .eq 5, 3) := by decide +kernel
theorem dL_law_1110 : decode cL_law 1110 = .ok (.iconst 0, 1) := by decide +kernel
theorem dL_law_1111 : decode cL_law 1111 = .ok (.ireturn, 1) := by decide +kernel
theorem dL_law_1112 : decode cL_law 1112 = .ok (.goto 2450, 3) := by decide +kernel
theorem dL_law_1115 : decode cL_law 1115 = .ok (.aload_n 1, 1) := by decide +kernel
theorem dL_law_1116 : decode cL_law 1116 = .ok (.aload_n 0, 1) := by decide +kernel
theorem dL_law_1117 : decode cL_law 1117 = .ok (.iload 4, 2) := by decide +kernel
theorem dL_law_1119 : decode cL_law 1119 = .ok (.iconst 1, 1) := by decide +kernel
theorem dL_law_1120 : decode cL_law 1120 = .ok (.iadd, 1) := by decide +kernel
theorem dL_law_1121 : decode cL_law 1121 = .ok (.iaload, 1) := by decide +kernel
theorem dL_law_1122 : decode cL_law 1122 = .ok (.aload_n 0, 1) := by decide +kernel
theorem dL_law_1123 : decode cL_law 1123 = .ok (.iload 4, 2) := by decide +kernel
theorem dL_law_1125 : decode cL_law 1125 = .ok (.iconst 2, 1) := by decide +kernel
theorem dL_law_1126 : decode cL_law 1126 = .ok (.iadd, 1) := by decide +kernel
theorem dL_law_1127 : decode cL_law 1127 = .ok (.iaload, 1) := by decide +kernel
theorem dL_law_1128 : decode cL_law 1128 = .ok (.aload_n 3, 1) := by decide +kernel
theorem dL_law_1129 : decode cL_law 1129 = .ok (.invokestatic 242, 3) := by decide +kernel
theorem dL_law_1132 : decode cL_law 1132 = .ok (.istore 5, 2) := by decide +kernel
theorem dL_law_1134 : decode cL_law 1134 = .ok (.aload_n 2, 1) := by decide +kernel
theorem dL_law_1135 : decode cL_law 1135 = .ok (.aload_n 0, 1) := by decide +kernel
theorem dL_law_1136 : decode cL_law 1136 = .ok (.iload 4, 2) := by decide +kernel
theorem dL_law_1138 : decode cL_law 1138 = .ok (.iconst 1, 1) := by decide +kernel
theorem dL_law_1139 : decode cL_law 1139 = .ok (.iadd, 1) := by decide +kernel
theorem dL_law_1140 : decode cL_law 1140 = .ok (.iaload, 1) := by decide +kernel
theorem dL_law_1141 : decode cL_law 1141 = .ok (.aload_n 0, 1) := by decide +kernel
theorem dL_law_1142 : decode cL_law 1142 = .ok (.iload 4, 2) := by decide +kernel
theorem dL_law_1144 : decode cL_law 1144 = .ok (.iconst 2, 1) := by decide +kernel
theorem dL_law_1145 : decode cL_law 1145 = .ok (.iadd, 1) := by decide +kernel
theorem dL_law_1146 : decode cL_law 1146 = .ok (.iaload, 1) := by decide +kernel
theorem dL_law_1147 : decode cL_law 1147 = .ok (.invokevirtual 244, 3) := by decide +kernel
theorem dL_law_1150 : decode cL_law 1150 = .ok (.istore 6, 2) := by decide +kernel
theorem dL_law_1152 : decode cL_law 1152 = .ok (.aload_n 2, 1) := by decide +kernel
theorem dL_law_1153 : decode cL_law 1153 = .ok (.invokevirtual 188, 3) := by decide +kernel
theorem dL_law_1156 : decode cL_law 1156 = .ok (.iload 5, 2) := by decide +kernel
theorem dL_law_1158 : decode cL_law 1158 = .ok (.if_icmp .eq 5, 3) := by decide +kernel
theorem dL_law_1161 : decode cL_law 1161 = .ok (.iconst 0, 1) := by decide +kernel
theorem dL_law_1162 : decode cL_law 1162 = .ok (.ireturn, 1) := by decide +kernel
theorem dL_law_1163 : decode cL_law 1163 = .ok (.iload 5, 2) := by decide +kernel
theorem dL_law_1165 : decode cL_law 1165 = .ok (.ifCond .ne 15, 3) := by decide +kernel
theorem dL_law_1168 : decode cL_law 1168 = .ok (.aload_n 3, 1) := by decide +kernel
theorem dL_law_1169 : decode cL_law 1169 = .ok (.iconst 0, 1) := by decide +kernel
theorem dL_law_1170 : decode cL_law 1170 = .ok (.laload, 1) := by decide +kernel
theorem dL_law_1171 : decode cL_law 1171 = .ok (.iload 6, 2) := by decide +kernel
theorem dL_law_1173 : decode cL_law 1173 = .ok (.i2l, 1) := by decide +kernel
theorem dL_law_1174 : decode cL_law 1174 = .ok (.lcmp, 1) := by decide +kernel
theorem dL_law_1175 : decode cL_law 1175 = .ok (.ifCond .eq 5, 3) := by decide +kernel
theorem dL_law_1178 : decode cL_law 1178 = .ok (.iconst 0, 1) := by decide +kernel
theorem dL_law_1179 : decode cL_law 1179 = .ok (.ireturn, 1) := by decide +kernel
theorem dL_law_1180 : decode cL_law 1180 = .ok (.goto 2382, 3) := by decide +kernel
theorem dL_law_1183 : decode cL_law 1183 = .ok (.aload_n 1, 1) := by decide +kernel
theorem dL_law_1184 : decode cL_law 1184 = .ok (.aload_n 0, 1) := by decide +kernel
theorem dL_law_1185 : decode cL_law 1185 = .ok (.iload 4, 2) := by decide +kernel
theorem dL_law_1187 : decode cL_law 1187 = .ok (.iconst 1, 1) := by decide +kernel
theorem dL_law_1188 : decode cL_law 1188 = .ok (.iadd, 1) := by decide +kernel
theorem dL_law_1189 : decode cL_law 1189 = .ok (.iaload, 1) := by decide +kernel
theorem dL_law_1190 : decode cL_law 1190 = .ok (.aload_n 0, 1) := by decide +kernel
theorem dL_law_1191 : decode cL_law 1191 = .ok (.iload 4, 2) := by decide +kernel
theorem dL_law_1193 : decode cL_law 1193 = .ok (.iconst 2, 1) := by decide +kernel
theorem dL_law_1194 : decode cL_law 1194 = .ok (.iadd, 1) := by decide +kernel
theorem dL_law_1195 : decode cL_law 1195 = .ok (.iaload, 1) := by decide +kernel
theorem dL_law_1196 : decode cL_law 1196 = .ok (.aload_n 3, 1) := by decide +kernel
theorem dL_law_1197 : decode cL_law 1197 = .ok (.invokestatic 245, 3) := by decide +kernel
theorem dL_law_1200 : decode cL_law 1200 = .ok (.istore 5, 2) := by decide +kernel
theorem dL_law_1202 : decode cL_law 1202 = .ok (.aload_n 2, 1) := by decide +kernel
theorem dL_law_1203 : decode cL_law 1203 = .ok (.aload_n 0, 1) := by decide +kernel
theorem dL_law_1204 : decode cL_law 1204 = .ok (.iload 4, 2) := by decide +kernel
theorem dL_law_1206 : decode cL_law 1206 = .ok (.iconst 1, 1) := by decide +kernel
theorem dL_law_1207 : decode cL_law 1207 = .ok (.iadd, 1) := by decide +kernel
theorem dL_law_1208 : decode cL_law 1208 = .ok (.iaload, 1) := by decide +kernel
theorem dL_law_1209 : decode cL_law 1209 = .ok (.aload_n 0, 1) := by decide +kernel
theorem dL_law_1210 : decode cL_law 1210 = .ok (.iload 4, 2) := by decide +kernel
theorem dL_law_1212 : decode cL_law 1212 = .ok (.iconst 2, 1) := by decide +kernel
theorem dL_law_1213 : decode cL_law 1213 = .ok (.iadd, 1) := by decide +kernel
theorem dL_law_1214 : decode cL_law 1214 = .ok (.iaload, 1) := by decide +kernel
theorem dL_law_1215 : decode cL_law 1215 = .ok (.invokevirtual 247, 3) := by decide +kernel
theorem dL_law_1218 : decode cL_law 1218 = .ok (.istore 6, 2) := by decide +kernel
theorem dL_law_1220 : decode cL_law 1220 = .ok (.aload_n 2, 1) := by decide +kernel
theorem dL_law_1221 : decode cL_law 1221 = .ok (.invokevirtual 188, 3) := by decide +kernel
theorem dL_law_1224 : decode cL_law 1224 = .ok (.iload 5, 2) := by decide +kernel
theorem dL_law_1226 : decode cL_law 1226 = .ok (.if_icmp .eq 5, 3) := by decide +kernel
theorem dL_law_1229 : decode cL_law 1229 = .ok (.iconst 0, 1) := by decide +kernel
theorem dL_law_1230 : decode cL_law 1230 = .ok (.ireturn, 1) := by decide +kernel
theorem dL_law_1231 : decode cL_law 1231 = .ok (.iload 5, 2) := by decide +kernel
theorem dL_law_1233 : decode cL_law 1233 = .ok (.ifCond .ne 15, 3) := by decide +kernel
theorem dL_law_1236 : decode cL_law 1236 = .ok (.aload_n 3, 1) := by decide +kernel
theorem dL_law_1237 : decode cL_law 1237 = .ok (.iconst 0, 1) := by decide +kernel
theorem dL_law_1238 : decode cL_law 1238 = .ok (.laload, 1) := by decide +kernel
theorem dL_law_1239 : decode cL_law 1239 = .ok (.iload 6, 2) := by decide +kernel
theorem dL_law_1241 : decode cL_law 1241 = .ok (.i2l, 1) := by decide +kernel
theorem dL_law_1242 : decode cL_law 1242 = .ok (.lcmp, 1) := by decide +kernel
theorem dL_law_1243 : decode cL_law 1243 = .ok (.ifCond .eq 5, 3) := by decide +kernel
theorem dL_law_1246 : decode cL_law 1246 = .ok (.iconst 0, 1) := by decide +kernel
theorem dL_law_1247 : decode cL_law 1247 = .ok (.ireturn, 1) := by decide +kernel
theorem dL_law_1248 : decode cL_law 1248 = .ok (.goto 2314, 3) := by decide +kernel
theorem dL_law_1251 : decode cL_law 1251 = .ok (.aload_n 1, 1) := by decide +kernel
theorem dL_law_1252 : decode cL_law 1252 = .ok (.aload_n 0, 1) := by decide +kernel
theorem dL_law_1253 : decode cL_law 1253 = .ok (.iload 4, 2) := by decide +kernel
theorem dL_law_1255 : decode cL_law 1255 = .ok (.iconst 1, 1) := by decide +kernel
theorem dL_law_1256 : decode cL_law 1256 = .ok (.iadd, 1) := by decide +kernel
theorem dL_law_1257 : decode cL_law 1257 = .ok (.iaload, 1) := by decide +kernel
theorem dL_law_1258 : decode cL_law 1258 = .ok (.aload_n 3, 1) := by decide +kernel
theorem dL_law_1259 : decode cL_law 1259 = .ok (.invokestatic 248, 3) := by decide +kernel
theorem dL_law_1262 : decode cL_law 1262 = .ok (.istore 5, 2) := by decide +kernel
theorem dL_law_1264 : decode cL_law 1264 = .ok (.aload_n 2, 1) := by decide +kernel
theorem dL_law_1265 : decode cL_law 1265 = .ok (.aload_n 0, 1) := by decide +kernel
theorem dL_law_1266 : decode cL_law 1266 = .ok (.iload 4, 2) := by decide +kernel
theorem dL_law_1268 : decode cL_law 1268 = .ok (.iconst 1, 1) := by decide +kernel
theorem dL_law_1269 : decode cL_law 1269 = .ok (.iadd, 1) := by decide +kernel
theorem dL_law_1270 : decode cL_law 1270 = .ok (.iaload, 1) := by decide +kernel
theorem dL_law_1271 : decode cL_law 1271 = .ok (.invokevirtual 250, 3) := by decide +kernel
theorem dL_law_1274 : decode cL_law 1274 = .ok (.istore 6, 2) := by decide +kernel
theorem dL_law_1276 : decode cL_law 1276 = .ok (.aload_n 2, 1) := by decide +kernel
theorem dL_law_1277 : decode cL_law 1277 = .ok (.invokevirtual 188, 3) := by decide +kernel
theorem dL_law_1280 : decode cL_law 1280 = .ok (.iload 5, 2) := by decide +kernel
theorem dL_law_1282 : decode cL_law 1282 = .ok (.if_icmp .eq 5, 3) := by decide +kernel
theorem dL_law_1285 : decode cL_law 1285 = .ok (.iconst 0, 1) := by decide +kernel
theorem dL_law_1286 : decode cL_law 1286 = .ok (.ireturn, 1) := by decide +kernel
theorem dL_law_1287 : decode cL_law 1287 = .ok (.iload 5, 2) := by decide +kernel
theorem dL_law_1289 : decode cL_law 1289 = .ok (.ifCond .ne 15, 3) := by decide +kernel
theorem dL_law_1292 : decode cL_law 1292 = .ok (.aload_n 3, 1) := by decide +kernel
theorem dL_law_1293 : decode cL_law 1293 = .ok (.iconst 0, 1) := by decide +kernel
theorem dL_law_1294 : decode cL_law 1294 = .ok (.laload, 1) := by decide +kernel
theorem dL_law_1295 : decode cL_law 1295 = .ok (.iload 6, 2) := by decide +kernel
theorem dL_law_1297 : decode cL_law 1297 = .ok (.i2l, 1) := by decide +kernel
theorem dL_law_1298 : decode cL_law 1298 = .ok (.lcmp, 1) := by decide +kernel
theorem dL_law_1299 : decode cL_law 1299 = .ok (.ifCond .eq 5, 3) := by decide +kernel
theorem dL_law_1302 : decode cL_law 1302 = .ok (.iconst 0, 1) := by decide +kernel
theorem dL_law_1303 : decode cL_law 1303 = .ok (.ireturn, 1) := by decide +kernel
theorem dL_law_1304 : decode cL_law 1304 = .ok (.goto 2258, 3) := by decide +kernel
theorem dL_law_1307 : decode cL_law 1307 = .ok (.aload_n 1, 1) := by decide +kernel
theorem dL_law_1308 : decode cL_law 1308 = .ok (.aload_n 0, 1) := by decide +kernel
theorem dL_law_1309 : decode cL_law 1309 = .ok (.iload 4, 2) := by decide +kernel
theorem dL_law_1311 : decode cL_law 1311 = .ok (.iconst 1, 1) := by decide +kernel
theorem dL_law_1312 : decode cL_law 1312 = .ok (.iadd, 1) := by decide +kernel
theorem dL_law_1313 : decode cL_law 1313 = .ok (.iaload, 1) := by decide +kernel
theorem dL_law_1314 : decode cL_law 1314 = .ok (.aload_n 3, 1) := by decide +kernel
theorem dL_law_1315 : decode cL_law 1315 = .ok (.invokestatic 251, 3) := by decide +kernel
theorem dL_law_1318 : decode cL_law 1318 = .ok (.istore 5, 2) := by decide +kernel
theorem dL_law_1320 : decode cL_law 1320 = .ok (.aload_n 2, 1) := by decide +kernel
theorem dL_law_1321 : decode cL_law 1321 = .ok (.aload_n 0, 1) := by decide +kernel
theorem dL_law_1322 : decode cL_law 1322 = .ok (.iload 4, 2) := by decide +kernel
theorem dL_law_1324 : decode cL_law 1324 = .ok (.iconst 1, 1) := by decide +kernel
theorem dL_law_1325 : decode cL_law 1325 = .ok (.iadd, 1) := by decide +kernel
theorem dL_law_1326 : decode cL_law 1326 = .ok (.iaload, 1) := by decide +kernel
theorem dL_law_1327 : decode cL_law 1327 = .ok (.invokevirtual 253, 3) := by decide +kernel
theorem dL_law_1330 : decode cL_law 1330 = .ok (.istore 6, 2) := by decide +kernel
theorem dL_law_1332 : decode cL_law 1332 = .ok (.aload_n 2, 1) := by decide +kernel
theorem dL_law_1333 : decode cL_law 1333 = .ok (.invokevirtual 188, 3) := by decide +kernel
theorem dL_law_1336 : decode cL_law 1336 = .ok (.iload 5, 2) := by decide +kernel
theorem dL_law_1338 : decode cL_law 1338 = .ok (.if_icmp .eq 5, 3) := by decide +kernel
theorem dL_law_1341 : decode cL_law 1341 = .ok (.iconst 0, 1) := by decide +kernel
theorem dL_law_1342 : decode cL_law 1342 = .ok (.ireturn, 1) := by decide +kernel
theorem dL_law_1343 : decode cL_law 1343 = .ok (.iload 5, 2) := by decide +kernel
theorem dL_law_1345 : decode cL_law 1345 = .ok (.ifCond .ne 15, 3) := by decide +kernel
theorem dL_law_1348 : decode cL_law 1348 = .ok (.aload_n 3, 1) := by decide +kernel
theorem dL_law_1349 : decode cL_law 1349 = .ok (.iconst 0, 1) := by decide +kernel
theorem dL_law_1350 : decode cL_law 1350 = .ok (.laload, 1) := by decide +kernel
theorem dL_law_1351 : decode cL_law 1351 = .ok (.iload 6, 2) := by decide +kernel
theorem dL_law_1353 : decode cL_law 1353 = .ok (.i2l, 1) := by decide +kernel
theorem dL_law_1354 : decode cL_law 1354 = .ok (.lcmp, 1) := by decide +kernel
theorem dL_law_1355 : decode cL_law 1355 = .ok (.ifCond .eq 5, 3) := by decide +kernel
theorem dL_law_1358 : decode cL_law 1358 = .ok (.iconst 0, 1) := by decide +kernel
theorem dL_law_1359 : decode cL_law 1359 = .ok (.ireturn, 1) := by decide +kernel
theorem dL_law_1360 : decode cL_law 1360 = .ok (.goto 2202, 3) := by decide +kernel
theorem dL_law_1363 : decode cL_law 1363 = .ok (.aload_n 1, 1) := by decide +kernel
theorem dL_law_1364 : decode cL_law 1364 = .ok (.aload_n 0, 1) := by decide +kernel
theorem dL_law_1365 : decode cL_law 1365 = .ok (.iload 4, 2) := by decide +kernel
theorem dL_law_1367 : decode cL_law 1367 = .ok (.iconst 1, 1) := by decide +kernel
theorem dL_law_1368 : decode cL_law 1368 = .ok (.iadd, 1) := by decide +kernel
theorem dL_law_1369 : decode cL_law 1369 = .ok (.iaload, 1) := by decide +kernel
theorem dL_law_1370 : decode cL_law 1370 = .ok (.aload_n 0, 1) := by decide +kernel
theorem dL_law_1371 : decode cL_law 1371 = .ok (.iload 4, 2) := by decide +kernel
theorem dL_law_1373 : decode cL_law 1373 = .ok (.iconst 2, 1) := by decide +kernel
theorem dL_law_1374 : decode cL_law 1374 = .ok (.iadd, 1) := by decide +kernel
theorem dL_law_1375 : decode cL_law 1375 = .ok (.iaload, 1) := by decide +kernel
theorem dL_law_1376 : decode cL_law 1376 = .ok (.aload_n 3, 1) := by decide +kernel
theorem dL_law_1377 : decode cL_law 1377 = .ok (.invokestatic 254, 3) := by decide +kernel
theorem dL_law_1380 : decode cL_law 1380 = .ok (.istore 5, 2) := by decide +kernel
theorem dL_law_1382 : decode cL_law 1382 = .ok (.aload_n 2, 1) := by decide +kernel
theorem dL_law_1383 : decode cL_law 1383 = .ok (.aload_n 0, 1) := by decide +kernel
theorem dL_law_1384 : decode cL_law 1384 = .ok (.iload 4, 2) := by decide +kernel
theorem dL_law_1386 : decode cL_law 1386 = .ok (.iconst 1, 1) := by decide +kernel
theorem dL_law_1387 : decode cL_law 1387 = .ok (.iadd, 1) := by decide +kernel
theorem dL_law_1388 : decode cL_law 1388 = .ok (.iaload, 1) := by decide +kernel
theorem dL_law_1389 : decode cL_law 1389 = .ok (.aload_n 0, 1) := by decide +kernel
theorem dL_law_1390 : decode cL_law 1390 = .ok (.iload 4, 2) := by decide +kernel
theorem dL_law_1392 : decode cL_law 1392 = .ok (.iconst 2, 1) := by decide +kernel
theorem dL_law_1393 : decode cL_law 1393 = .ok (.iadd, 1) := by decide +kernel
theorem dL_law_1394 : decode cL_law 1394 = .ok (.iaload, 1) := by decide +kernel
theorem dL_law_1395 : decode cL_law 1395 = .ok (.invokevirtual 256, 3) := by decide +kernel
theorem dL_law_1398 : decode cL_law 1398 = .ok (.istore 6, 2) := by decide +kernel
theorem dL_law_1400 : decode cL_law 1400 = .ok (.aload_n 2, 1) := by decide +kernel
theorem dL_law_1401 : decode cL_law 1401 = .ok (.invokevirtual 188, 3) := by decide +kernel
theorem dL_law_1404 : decode cL_law 1404 = .ok (.iload 5, 2) := by decide +kernel
theorem dL_law_1406 : decode cL_law 1406 = .ok (.if_icmp .eq 5, 3) := by decide +kernel
theorem dL_law_1409 : decode cL_law 1409 = .ok (.iconst 0, 1) := by decide +kernel
theorem dL_law_1410 : decode cL_law 1410 = .ok (.ireturn, 1) := by decide +kernel
theorem dL_law_1411 : decode cL_law 1411 = .ok (.iload 5, 2) := by decide +kernel
theorem dL_law_1413 : decode cL_law 1413 = .ok (.ifCond .ne 15, 3) := by decide +kernel
theorem dL_law_1416 : decode cL_law 1416 = .ok (.aload_n 3, 1) := by decide +kernel
theorem dL_law_1417 : decode cL_law 1417 = .ok (.iconst 0, 1) := by decide +kernel
theorem dL_law_1418 : decode cL_law 1418 = .ok (.laload, 1) := by decide +kernel
theorem dL_law_1419 : decode cL_law 1419 = .ok (.iload 6, 2) := by decide +kernel
theorem dL_law_1421 : decode cL_law 1421 = .ok (.i2l, 1) := by decide +kernel
theorem dL_law_1422 : decode cL_law 1422 = .ok (.lcmp, 1) := by decide +kernel
theorem dL_law_1423 : decode cL_law 1423 = .ok (.ifCond .eq 5, 3) := by decide +kernel
theorem dL_law_1426 : decode cL_law 1426 = .ok (.iconst 0, 1) := by decide +kernel
theorem dL_law_1427 : decode cL_law 1427 = .ok (.ireturn, 1) := by decide +kernel
theorem dL_law_1428 : decode cL_law 1428 = .ok (.goto 2134, 3) := by decide +kernel
theorem dL_law_1431 : decode cL_law 1431 = .ok (.aload_n 1, 1) := by decide +kernel
theorem dL_law_1432 : decode cL_law 1432 = .ok (.aload_n 0, 1) := by decide +kernel
theorem dL_law_1433 : decode cL_law 1433 = .ok (.iload 4, 2) := by decide +kernel
theorem dL_law_1435 : decode cL_law 1435 = .ok (.iconst 1, 1) := by decide +kernel
theorem dL_law_1436 : decode cL_law 1436 = .ok (.iadd, 1) := by decide +kernel
theorem dL_law_1437 : decode cL_law 1437 = .ok (.iaload, 1) := by decide +kernel
theorem dL_law_1438 : decode cL_law 1438 = .ok (.aload_n 0, 1) := by decide +kernel
theorem dL_law_1439 : decode cL_law 1439 = .ok (.iload 4, 2) := by decide +kernel
theorem dL_law_1441 : decode cL_law 1441 = .ok (.iconst 2, 1) := by decide +kernel
theorem dL_law_1442 : decode cL_law 1442 = .ok (.iadd, 1) := by decide +kernel
theorem dL_law_1443 : decode cL_law 1443 = .ok (.iaload, 1) := by decide +kernel
theorem dL_law_1444 : decode cL_law 1444 = .ok (.aload_n 3, 1) := by decide +kernel
theorem dL_law_1445 : decode cL_law 1445 = .ok (.invokestatic 257, 3) := by decide +kernel
theorem dL_law_1448 : decode cL_law 1448 = .ok (.istore 5, 2) := by decide +kernel
theorem dL_law_1450 : decode cL_law 1450 = .ok (.aload_n 2, 1) := by decide +kernel
theorem dL_law_1451 : decode cL_law 1451 = .ok (.aload_n 0, 1) := by decide +kernel
theorem dL_law_1452 : decode cL_law 1452 = .ok (.iload 4, 2) := by decide +kernel
theorem dL_law_1454 : decode cL_law 1454 = .ok (.iconst 1, 1) := by decide +kernel
theorem dL_law_1455 : decode cL_law 1455 = .ok (.iadd, 1) := by decide +kernel
theorem dL_law_1456 : decode cL_law 1456 = .ok (.iaload, 1) := by decide +kernel
theorem dL_law_1457 : decode cL_law 1457 = .ok (.aload_n 0, 1) := by decide +kernel
theorem dL_law_1458 : decode cL_law 1458 = .ok (.iload 4, 2) := by decide +kernel
theorem dL_law_1460 : decode cL_law 1460 = .ok (.iconst 2, 1) := by decide +kernel
theorem dL_law_1461 : decode cL_law 1461 = .ok (.iadd, 1) := by decide +kernel
theorem dL_law_1462 : decode cL_law 1462 = .ok (.iaload, 1) := by decide +kernel
theorem dL_law_1463 : decode cL_law 1463 = .ok (.invokevirtual 259, 3) := by decide +kernel
theorem dL_law_1466 : decode cL_law 1466 = .ok (.istore 6, 2) := by decide +kernel
theorem dL_law_1468 : decode cL_law 1468 = .ok (.aload_n 2, 1) := by decide +kernel
theorem dL_law_1469 : decode cL_law 1469 = .ok (.invokevirtual 188, 3) := by decide +kernel
theorem dL_law_1472 : decode cL_law 1472 = .ok (.iload 5, 2) := by decide +kernel
theorem dL_law_1474 : decode cL_law 1474 = .ok (.if_icmp .eq 5, 3) := by decide +kernel
theorem dL_law_1477 : decode cL_law 1477 = .ok (.iconst 0, 1) := by decide +kernel
theorem dL_law_1478 : decode cL_law 1478 = .ok (.ireturn, 1) := by decide +kernel
theorem dL_law_1479 : decode cL_law 1479 = .ok (.iload 5, 2) := by decide +kernel
theorem dL_law_1481 : decode cL_law 1481 = .ok (.ifCond .ne 15, 3) := by decide +kernel
theorem dL_law_1484 : decode cL_law 1484 = .ok (.aload_n 3, 1) := by decide +kernel
theorem dL_law_1485 : decode cL_law 1485 = .ok (.iconst 0, 1) := by decide +kernel
theorem dL_law_1486 : decode cL_law 1486 = .ok (.laload, 1) := by decide +kernel
theorem dL_law_1487 : decode cL_law 1487 = .ok (.iload 6, 2) := by decide +kernel
theorem dL_law_1489 : decode cL_law 1489 = .ok (.i2l, 1) := by decide +kernel
theorem dL_law_1490 : decode cL_law 1490 = .ok (.lcmp, 1) := by decide +kernel
theorem dL_law_1491 : decode cL_law 1491 = .ok (.ifCond .eq 5, 3) := by decide +kernel
theorem dL_law_1494 : decode cL_law 1494 = .ok (.iconst 0, 1) := by decide +kernel
theorem dL_law_1495 : decode cL_law 1495 = .ok (.ireturn, 1) := by decide +kernel
theorem dL_law_1496 : decode cL_law 1496 = .ok (.goto 2066, 3) := by decide +kernel
theorem dL_law_1499 : decode cL_law 1499 = .ok (.aload_n 1, 1) := by decide +kernel
theorem dL_law_1500 : decode cL_law 1500 = .ok (.aload_n 0, 1) := by decide +kernel
theorem dL_law_1501 : decode cL_law 1501 = .ok (.iload 4, 2) := by decide +kernel
theorem dL_law_1503 : decode cL_law 1503 = .ok (.iconst 1, 1) := by decide +kernel
theorem dL_law_1504 : decode cL_law 1504 = .ok (.iadd, 1) := by decide +kernel
theorem dL_law_1505 : decode cL_law 1505 = .ok (.iaload, 1) := by decide +kernel
theorem dL_law_1506 : decode cL_law 1506 = .ok (.aload_n 0, 1) := by decide +kernel
theorem dL_law_1507 : decode cL_law 1507 = .ok (.iload 4, 2) := by decide +kernel
theorem dL_law_1509 : decode cL_law 1509 = .ok (.iconst 2, 1) := by decide +kernel
theorem dL_law_1510 : decode cL_law 1510 = .ok (.iadd, 1) := by decide +kernel
theorem dL_law_1511 : decode cL_law 1511 = .ok (.iaload, 1) := by decide +kernel
theorem dL_law_1512 : decode cL_law 1512 = .ok (.aload_n 3, 1) := by decide +kernel
theorem dL_law_1513 : decode cL_law 1513 = .ok (.invokestatic 260, 3) := by decide +kernel
theorem dL_law_1516 : decode cL_law 1516 = .ok (.istore 5, 2) := by decide +kernel
theorem dL_law_1518 : decode cL_law 1518 = .ok (.aload_n 2, 1) := by decide +kernel
theorem dL_law_1519 : decode cL_law 1519 = .ok (.aload_n 0, 1) := by decide +kernel
theorem dL_law_1520 : decode cL_law 1520 = .ok (.iload 4, 2) := by decide +kernel
theorem dL_law_1522 : decode cL_law 1522 = .ok (.iconst 1, 1) := by decide +kernel
theorem dL_law_1523 : decode cL_law 1523 = .ok (.iadd, 1) := by decide +kernel
theorem dL_law_1524 : decode cL_law 1524 = .ok (.iaload, 1) := by decide +kernel
theorem dL_law_1525 : decode cL_law 1525 = .ok (.aload_n 0, 1) := by decide +kernel
theorem dL_law_1526 : decode cL_law 1526 = .ok (.iload 4, 2) := by decide +kernel
theorem dL_law_1528 : decode cL_law 1528 = .ok (.iconst 2, 1) := by decide +kernel
theorem dL_law_1529 : decode cL_law 1529 = .ok (.iadd, 1) := by decide +kernel
theorem dL_law_1530 : decode cL_law 1530 = .ok (.iaload, 1) := by decide +kernel
theorem dL_law_1531 : decode cL_law 1531 = .ok (.invokevirtual 262, 3) := by decide +kernel
theorem dL_law_1534 : decode cL_law 1534 = .ok (.istore 6, 2) := by decide +kernel
theorem dL_law_1536 : decode cL_law 1536 = .ok (.aload_n 2, 1) := by decide +kernel
theorem dL_law_1537 : decode cL_law 1537 = .ok (.invokevirtual 188, 3) := by decide +kernel
theorem dL_law_1540 : decode cL_law 1540 = .ok (.iload 5, 2) := by decide +kernel
theorem dL_law_1542 : decode cL_law 1542 = .ok (.if_icmp .eq 5, 3) := by decide +kernel
theorem dL_law_1545 : decode cL_law 1545 = .ok (.iconst 0, 1) := by decide +kernel
theorem dL_law_1546 : decode cL_law 1546 = .ok (.ireturn, 1) := by decide +kernel
theorem dL_law_1547 : decode cL_law 1547 = .ok (.iload 5, 2) := by decide +kernel
theorem dL_law_1549 : decode cL_law 1549 = .ok (.ifCond .ne 15, 3) := by decide +kernel
theorem dL_law_1552 : decode cL_law 1552 = .ok (.aload_n 3, 1) := by decide +kernel
theorem dL_law_1553 : decode cL_law 1553 = .ok (.iconst 0, 1) := by decide +kernel
theorem dL_law_1554 : decode cL_law 1554 = .ok (.laload, 1) := by decide +kernel
theorem dL_law_1555 : decode cL_law 1555 = .ok (.iload 6, 2) := by decide +kernel
theorem dL_law_1557 : decode cL_law 1557 = .ok (.i2l, 1) := by decide +kernel
theorem dL_law_1558 : decode cL_law 1558 = .ok (.lcmp, 1) := by decide +kernel
theorem dL_law_1559 : decode cL_law 1559 = .ok (.ifCond .eq 5, 3) := by decide +kernel
theorem dL_law_1562 : decode cL_law 1562 = .ok (.iconst 0, 1) := by decide +kernel
theorem dL_law_1563 : decode cL_law 1563 = .ok (.ireturn, 1) := by decide +kernel
theorem dL_law_1564 : decode cL_law 1564 = .ok (.goto 1998, 3) := by decide +kernel
theorem dL_law_1567 : decode cL_law 1567 = .ok (.aload_n 1, 1) := by decide +kernel
theorem dL_law_1568 : decode cL_law 1568 = .ok (.aload_n 0, 1) := by decide +kernel
theorem dL_law_1569 : decode cL_law 1569 = .ok (.iload 4, 2) := by decide +kernel
theorem dL_law_1571 : decode cL_law 1571 = .ok (.iconst 1, 1) := by decide +kernel
theorem dL_law_1572 : decode cL_law 1572 = .ok (.iadd, 1) := by decide +kernel
theorem dL_law_1573 : decode cL_law 1573 = .ok (.iaload, 1) := by decide +kernel
theorem dL_law_1574 : decode cL_law 1574 = .ok (.aload_n 0, 1) := by decide +kernel
theorem dL_law_1575 : decode cL_law 1575 = .ok (.iload 4, 2) := by decide +kernel
theorem dL_law_1577 : decode cL_law 1577 = .ok (.iconst 2, 1) := by decide +kernel
theorem dL_law_1578 : decode cL_law 1578 = .ok (.iadd, 1) := by decide +kernel
theorem dL_law_1579 : decode cL_law 1579 = .ok (.iaload, 1) := by decide +kernel
theorem dL_law_1580 : decode cL_law 1580 = .ok (.aload_n 0, 1) := by decide +kernel
theorem dL_law_1581 : decode cL_law 1581 = .ok (.iload 4, 2) := by decide +kernel
theorem dL_law_1583 : decode cL_law 1583 = .ok (.iconst 3, 1) := by decide +kernel
theorem dL_law_1584 : decode cL_law 1584 = .ok (.iadd, 1) := by decide +kernel
theorem dL_law_1585 : decode cL_law 1585 = .ok (.iaload, 1) := by decide +kernel
theorem dL_law_1586 : decode cL_law 1586 = .ok (.aload_n 3, 1) := by decide +kernel
theorem dL_law_1587 : decode cL_law 1587 = .ok (.invokestatic 263, 3) := by decide +kernel
theorem dL_law_1590 : decode cL_law 1590 = .ok (.istore 5, 2) := by decide +kernel
theorem dL_law_1592 : decode cL_law 1592 = .ok (.aload_n 2, 1) := by decide +kernel
theorem dL_law_1593 : decode cL_law 1593 = .ok (.aload_n 0, 1) := by decide +kernel
theorem dL_law_1594 : decode cL_law 1594 = .ok (.iload 4, 2) := by decide +kernel
theorem dL_law_1596 : decode cL_law 1596 = .ok (.iconst 1, 1) := by decide +kernel
theorem dL_law_1597 : decode cL_law 1597 = .ok (.iadd, 1) := by decide +kernel
theorem dL_law_1598 : decode cL_law 1598 = .ok (.iaload, 1) := by decide +kernel
theorem dL_law_1599 : decode cL_law 1599 = .ok (.aload_n 0, 1) := by decide +kernel
theorem dL_law_1600 : decode cL_law 1600 = .ok (.iload 4, 2) := by decide +kernel
theorem dL_law_1602 : decode cL_law 1602 = .ok (.iconst 2, 1) := by decide +kernel
theorem dL_law_1603 : decode cL_law 1603 = .ok (.iadd, 1) := by decide +kernel
theorem dL_law_1604 : decode cL_law 1604 = .ok (.iaload, 1) := by decide +kernel
theorem dL_law_1605 : decode cL_law 1605 = .ok (.aload_n 0, 1) := by decide +kernel
theorem dL_law_1606 : decode cL_law 1606 = .ok (.iload 4, 2) := by decide +kernel
theorem dL_law_1608 : decode cL_law 1608 = .ok (.iconst 3, 1) := by decide +kernel
theorem dL_law_1609 : decode cL_law 1609 = .ok (.iadd, 1) := by decide +kernel
theorem dL_law_1610 : decode cL_law 1610 = .ok (.iaload, 1) := by decide +kernel
theorem dL_law_1611 : decode cL_law 1611 = .ok (.invokevirtual 266, 3) := by decide +kernel
theorem dL_law_1614 : decode cL_law 1614 = .ok (.istore 6, 2) := by decide +kernel
theorem dL_law_1616 : decode cL_law 1616 = .ok (.aload_n 2, 1) := by decide +kernel
theorem dL_law_1617 : decode cL_law 1617 = .ok (.invokevirtual 188, 3) := by decide +kernel
theorem dL_law_1620 : decode cL_law 1620 = .ok (.iload 5, 2) := by decide +kernel
theorem dL_law_1622 : decode cL_law 1622 = .ok (.if_icmp .eq 5, 3) := by decide +kernel
theorem dL_law_1625 : decode cL_law 1625 = .ok (.iconst 0, 1) := by decide +kernel
theorem dL_law_1626 : decode cL_law 1626 = .ok (.ireturn, 1) := by decide +kernel
theorem dL_law_1627 : decode cL_law 1627 = .ok (.iload 5, 2) := by decide +kernel
theorem dL_law_1629 : decode cL_law 1629 = .ok (.ifCond .ne 15, 3) := by decide +kernel
theorem dL_law_1632 : decode cL_law 1632 = .ok (.aload_n 3, 1) := by decide +kernel
theorem dL_law_1633 : decode cL_law 1633 = .ok (.iconst 0, 1) := by decide +kernel
theorem dL_law_1634 : decode cL_law 1634 = .ok (.laload, 1) := by decide +kernel
theorem dL_law_1635 : decode cL_law 1635 = .ok (.iload 6, 2) := by decide +kernel
theorem dL_law_1637 : decode cL_law 1637 = .ok (.i2l, 1) := by decide +kernel
theorem dL_law_1638 : decode cL_law 1638 = .ok (.lcmp, 1) := by decide +kernel
theorem dL_law_1639 : decode cL_law 1639 = .ok (.ifCond .eq 5, 3) := by decide +kernel
theorem dL_law_1642 : decode cL_law 1642 = .ok (.iconst 0, 1) := by decide +kernel
theorem dL_law_1643 : decode cL_law 1643 = .ok (.ireturn, 1) := by decide +kernel
theorem dL_law_1644 : decode cL_law 1644 = .ok (.goto 1918, 3) := by decide +kernel
theorem dL_law_1647 : decode cL_law 1647 = .ok (.aload_n 1, 1) := by decide +kernel
theorem dL_law_1648 : decode cL_law 1648 = .ok (.aload_n 0, 1) := by decide +kernel
theorem dL_law_1649 : decode cL_law 1649 = .ok (.iload 4, 2) := by decide +kernel
theorem dL_law_1651 : decode cL_law 1651 = .ok (.iconst 1, 1) := by decide +kernel
theorem dL_law_1652 : decode cL_law 1652 = .ok (.iadd, 1) := by decide +kernel
theorem dL_law_1653 : decode cL_law 1653 = .ok (.iaload, 1) := by decide +kernel
theorem dL_law_1654 : decode cL_law 1654 = .ok (.aload_n 0, 1) := by decide +kernel
theorem dL_law_1655 : decode cL_law 1655 = .ok (.iload 4, 2) := by decide +kernel
theorem dL_law_1657 : decode cL_law 1657 = .ok (.iconst 2, 1) := by decide +kernel
theorem dL_law_1658 : decode cL_law 1658 = .ok (.iadd, 1) := by decide +kernel
theorem dL_law_1659 : decode cL_law 1659 = .ok (.iaload, 1) := by decide +kernel
theorem dL_law_1660 : decode cL_law 1660 = .ok (.aload_n 3, 1) := by decide +kernel
theorem dL_law_1661 : decode cL_law 1661 = .ok (.invokestatic 267, 3) := by decide +kernel
theorem dL_law_1664 : decode cL_law 1664 = .ok (.istore 5, 2) := by decide +kernel
theorem dL_law_1666 : decode cL_law 1666 = .ok (.aload_n 2, 1) := by decide +kernel
theorem dL_law_1667 : decode cL_law 1667 = .ok (.aload_n 0, 1) := by decide +kernel
theorem dL_law_1668 : decode cL_law 1668 = .ok (.iload 4, 2) := by decide +kernel
theorem dL_law_1670 : decode cL_law 1670 = .ok (.iconst 1, 1) := by decide +kernel
theorem dL_law_1671 : decode cL_law 1671 = .ok (.iadd, 1) := by decide +kernel
theorem dL_law_1672 : decode cL_law 1672 = .ok (.iaload, 1) := by decide +kernel
theorem dL_law_1673 : decode cL_law 1673 = .ok (.aload_n 0, 1) := by decide +kernel
theorem dL_law_1674 : decode cL_law 1674 = .ok (.iload 4, 2) := by decide +kernel
theorem dL_law_1676 : decode cL_law 1676 = .ok (.iconst 2, 1) := by decide +kernel
theorem dL_law_1677 : decode cL_law 1677 = .ok (.iadd, 1) := by decide +kernel
theorem dL_law_1678 : decode cL_law 1678 = .ok (.iaload, 1) := by decide +kernel
theorem dL_law_1679 : decode cL_law 1679 = .ok (.invokevirtual 269, 3) := by decide +kernel
theorem dL_law_1682 : decode cL_law 1682 = .ok (.istore 6, 2) := by decide +kernel
theorem dL_law_1684 : decode cL_law 1684 = .ok (.aload_n 2, 1) := by decide +kernel
theorem dL_law_1685 : decode cL_law 1685 = .ok (.invokevirtual 188, 3) := by decide +kernel
theorem dL_law_1688 : decode cL_law 1688 = .ok (.iload 5, 2) := by decide +kernel
theorem dL_law_1690 : decode cL_law 1690 = .ok (.if_icmp .eq 5, 3) := by decide +kernel
theorem dL_law_1693 : decode cL_law 1693 = .ok (.iconst 0, 1) := by decide +kernel
theorem dL_law_1694 : decode cL_law 1694 = .ok (.ireturn, 1) := by decide +kernel
theorem dL_law_1695 : decode cL_law 1695 = .ok (.iload 5, 2) := by decide +kernel
theorem dL_law_1697 : decode cL_law 1697 = .ok (.ifCond .ne 15, 3) := by decide +kernel
theorem dL_law_1700 : decode cL_law 1700 = .ok (.aload_n 3, 1) := by decide +kernel
theorem dL_law_1701 : decode cL_law 1701 = .ok (.iconst 0, 1) := by decide +kernel
theorem dL_law_1702 : decode cL_law 1702 = .ok (.laload, 1) := by decide +kernel
theorem dL_law_1703 : decode cL_law 1703 = .ok (.iload 6, 2) := by decide +kernel
theorem dL_law_1705 : decode cL_law 1705 = .ok (.i2l, 1) := by decide +kernel
theorem dL_law_1706 : decode cL_law 1706 = .ok (.lcmp, 1) := by decide +kernel
theorem dL_law_1707 : decode cL_law 1707 = .ok (.ifCond .eq 5, 3) := by decide +kernel
theorem dL_law_1710 : decode cL_law 1710 = .ok (.iconst 0, 1) := by decide +kernel
theorem dL_law_1711 : decode cL_law 1711 = .ok (.ireturn, 1) := by decide +kernel
theorem dL_law_1712 : decode cL_law 1712 = .ok (.goto 1850, 3) := by decide +kernel
theorem dL_law_1715 : decode cL_law 1715 = .ok (.aload_n 1, 1) := by decide +kernel
theorem dL_law_1716 : decode cL_law 1716 = .ok (.aload_n 0, 1) := by decide +kernel
theorem dL_law_1717 : decode cL_law 1717 = .ok (.iload 4, 2) := by decide +kernel
theorem dL_law_1719 : decode cL_law 1719 = .ok (.iconst 1, 1) := by decide +kernel
theorem dL_law_1720 : decode cL_law 1720 = .ok (.iadd, 1) := by decide +kernel
theorem dL_law_1721 : decode cL_law 1721 = .ok (.iaload, 1) := by decide +kernel
theorem dL_law_1722 : decode cL_law 1722 = .ok (.aload_n 3, 1) := by decide +kernel
theorem dL_law_1723 : decode cL_law 1723 = .ok (.invokestatic 270, 3) := by decide +kernel
theorem dL_law_1726 : decode cL_law 1726 = .ok (.istore 5, 2) := by decide +kernel
theorem dL_law_1728 : decode cL_law 1728 = .ok (.aload_n 2, 1) := by decide +kernel
theorem dL_law_1729 : decode cL_law 1729 = .ok (.aload_n 0, 1) := by decide +kernel
theorem dL_law_1730 : decode cL_law 1730 = .ok (.iload 4, 2) := by decide +kernel
theorem dL_law_1732 : decode cL_law 1732 = .ok (.iconst 1, 1) := by decide +kernel
theorem dL_law_1733 : decode cL_law 1733 = .ok (.iadd, 1) := by decide +kernel
theorem dL_law_1734 : decode cL_law 1734 = .ok (.iaload, 1) := by decide +kernel
theorem dL_law_1735 : decode cL_law 1735 = .ok (.invokevirtual 272, 3) := by decide +kernel
theorem dL_law_1738 : decode cL_law 1738 = .ok (.istore 6, 2) := by decide +kernel
theorem dL_law_1740 : decode cL_law 1740 = .ok (.aload_n 2, 1) := by decide +kernel
theorem dL_law_1741 : decode cL_law 1741 = .ok (.invokevirtual 188, 3) := by decide +kernel
theorem dL_law_1744 : decode cL_law 1744 = .ok (.iload 5, 2) := by decide +kernel
theorem dL_law_1746 : decode cL_law 1746 = .ok (.if_icmp .eq 5, 3) := by decide +kernel
theorem dL_law_1749 : decode cL_law 1749 = .ok (.iconst 0, 1) := by decide +kernel
theorem dL_law_1750 : decode cL_law 1750 = .ok (.ireturn, 1) := by decide +kernel
theorem dL_law_1751 : decode cL_law 1751 = .ok (.iload 5, 2) := by decide +kernel
theorem dL_law_1753 : decode cL_law 1753 = .ok (.ifCond .ne 15, 3) := by decide +kernel
theorem dL_law_1756 : decode cL_law 1756 = .ok (.aload_n 3, 1) := by decide +kernel
theorem dL_law_1757 : decode cL_law 1757 = .ok (.iconst 0, 1) := by decide +kernel
theorem dL_law_1758 : decode cL_law 1758 = .ok (.laload, 1) := by decide +kernel
theorem dL_law_1759 : decode cL_law 1759 = .ok (.iload 6, 2) := by decide +kernel
theorem dL_law_1761 : decode cL_law 1761 = .ok (.i2l, 1) := by decide +kernel
theorem dL_law_1762 : decode cL_law 1762 = .ok (.lcmp, 1) := by decide +kernel
theorem dL_law_1763 : decode cL_law 1763 = .ok (.ifCond .eq 5, 3) := by decide +kernel
theorem dL_law_1766 : decode cL_law 1766 = .ok (.iconst 0, 1) := by decide +kernel
theorem dL_law_1767 : decode cL_law 1767 = .ok (.ireturn, 1) := by decide +kernel
theorem dL_law_1768 : decode cL_law 1768 = .ok (.goto 1794, 3) := by decide +kernel
theorem dL_law_1771 : decode cL_law 1771 = .ok (.aload_n 1, 1) := by decide +kernel
theorem dL_law_1772 : decode cL_law 1772 = .ok (.aload_n 0, 1) := by decide +kernel
theorem dL_law_1773 : decode cL_law 1773 = .ok (.iload 4, 2) := by decide +kernel
theorem dL_law_1775 : decode cL_law 1775 = .ok (.iconst 1, 1) := by decide +kernel
theorem dL_law_1776 : decode cL_law 1776 = .ok (.iadd, 1) := by decide +kernel
theorem dL_law_1777 : decode cL_law 1777 = .ok (.iaload, 1) := by decide +kernel
theorem dL_law_1778 : decode cL_law 1778 = .ok (.aload_n 3, 1) := by decide +kernel
theorem dL_law_1779 : decode cL_law 1779 = .ok (.invokestatic 273, 3) := by decide +kernel
theorem dL_law_1782 : decode cL_law 1782 = .ok (.istore 5, 2) := by decide +kernel
theorem dL_law_1784 : decode cL_law 1784 = .ok (.aload_n 2, 1) := by decide +kernel
theorem dL_law_1785 : decode cL_law 1785 = .ok (.aload_n 0, 1) := by decide +kernel
theorem dL_law_1786 : decode cL_law 1786 = .ok (.iload 4, 2) := by decide +kernel
theorem dL_law_1788 : decode cL_law 1788 = .ok (.iconst 1, 1) := by decide +kernel
theorem dL_law_1789 : decode cL_law 1789 = .ok (.iadd, 1) := by decide +kernel
theorem dL_law_1790 : decode cL_law 1790 = .ok (.iaload, 1) := by decide +kernel
theorem dL_law_1791 : decode cL_law 1791 = .ok (.invokevirtual 275, 3) := by decide +kernel
theorem dL_law_1794 : decode cL_law 1794 = .ok (.istore 6, 2) := by decide +kernel
theorem dL_law_1796 : decode cL_law 1796 = .ok (.aload_n 2, 1) := by decide +kernel
theorem dL_law_1797 : decode cL_law 1797 = .ok (.invokevirtual 188, 3) := by decide +kernel
theorem dL_law_1800 : decode cL_law 1800 = .ok (.iload 5, 2) := by decide +kernel
theorem dL_law_1802 : decode cL_law 1802 = .ok (.if_icmp .eq 5, 3) := by decide +kernel
theorem dL_law_1805 : decode cL_law 1805 = .ok (.iconst 0, 1) := by decide +kernel
theorem dL_law_1806 : decode cL_law 1806 = .ok (.ireturn, 1) := by decide +kernel
theorem dL_law_1807 : decode cL_law 1807 = .ok (.iload 5, 2) := by decide +kernel
theorem dL_law_1809 : decode cL_law 1809 = .ok (.ifCond .ne 15, 3) := by decide +kernel
theorem dL_law_1812 : decode cL_law 1812 = .ok (.aload_n 3, 1) := by decide +kernel
theorem dL_law_1813 : decode cL_law 1813 = .ok (.iconst 0, 1) := by decide +kernel
theorem dL_law_1814 : decode cL_law 1814 = .ok (.laload, 1) := by decide +kernel
theorem dL_law_1815 : decode cL_law 1815 = .ok (.iload 6, 2) := by decide +kernel
theorem dL_law_1817 : decode cL_law 1817 = .ok (.i2l, 1) := by decide +kernel
theorem dL_law_1818 : decode cL_law 1818 = .ok (.lcmp, 1) := by decide +kernel
theorem dL_law_1819 : decode cL_law 1819 = .ok (.ifCond .eq 5, 3) := by decide +kernel
theorem dL_law_1822 : decode cL_law 1822 = .ok (.iconst 0, 1) := by decide +kernel
theorem dL_law_1823 : decode cL_law 1823 = .ok (.ireturn, 1) := by decide +kernel
theorem dL_law_1824 : decode cL_law 1824 = .ok (.goto 1738, 3) := by decide +kernel
theorem dL_law_1827 : decode cL_law 1827 = .ok (.aload_n 1, 1) := by decide +kernel
theorem dL_law_1828 : decode cL_law 1828 = .ok (.aload_n 0, 1) := by decide +kernel
theorem dL_law_1829 : decode cL_law 1829 = .ok (.iload 4, 2) := by decide +kernel
theorem dL_law_1831 : decode cL_law 1831 = .ok (.iconst 1, 1) := by decide +kernel
theorem dL_law_1832 : decode cL_law 1832 = .ok (.iadd, 1) := by decide +kernel
theorem dL_law_1833 : decode cL_law 1833 = .ok (.iaload, 1) := by decide +kernel
theorem dL_law_1834 : decode cL_law 1834 = .ok (.aload_n 3, 1) := by decide +kernel
theorem dL_law_1835 : decode cL_law 1835 = .ok (.invokestatic 276, 3) := by decide +kernel
theorem dL_law_1838 : decode cL_law 1838 = .ok (.istore 5, 2) := by decide +kernel
theorem dL_law_1840 : decode cL_law 1840 = .ok (.aload_n 2, 1) := by decide +kernel
theorem dL_law_1841 : decode cL_law 1841 = .ok (.aload_n 0, 1) := by decide +kernel
theorem dL_law_1842 : decode cL_law 1842 = .ok (.iload 4, 2) := by decide +kernel
theorem dL_law_1844 : decode cL_law 1844 = .ok (.iconst 1, 1) := by decide +kernel
theorem dL_law_1845 : decode cL_law 1845 = .ok (.iadd, 1) := by decide +kernel
theorem dL_law_1846 : decode cL_law 1846 = .ok (.iaload, 1) := by decide +kernel
theorem dL_law_1847 : decode cL_law 1847 = .ok (.invokevirtual 278, 3) := by decide +kernel
theorem dL_law_1850 : decode cL_law 1850 = .ok (.istore 6, 2) := by decide +kernel
theorem dL_law_1852 : decode cL_law 1852 = .ok (.aload_n 2, 1) := by decide +kernel
theorem dL_law_1853 : decode cL_law 1853 = .ok (.invokevirtual 188, 3) := by decide +kernel
theorem dL_law_1856 : decode cL_law 1856 = .ok (.iload 5, 2) := by decide +kernel
theorem dL_law_1858 : decode cL_law 1858 = .ok (.if_icmp .eq 5, 3) := by decide +kernel
theorem dL_law_1861 : decode cL_law 1861 = .ok (.iconst 0, 1) := by decide +kernel
theorem dL_law_1862 : decode cL_law 1862 = .ok (.ireturn, 1) := by decide +kernel
theorem dL_law_1863 : decode cL_law 1863 = .ok (.iload 5, 2) := by decide +kernel
theorem dL_law_1865 : decode cL_law 1865 = .ok (.ifCond .ne 22, 3) := by decide +kernel
theorem dL_law_1868 : decode cL_law 1868 = .ok (.aload_n 3, 1) := by decide +kernel
theorem dL_law_1869 : decode cL_law 1869 = .ok (.iconst 0, 1) := by decide +kernel
theorem dL_law_1870 : decode cL_law 1870 = .ok (.laload, 1) := by decide +kernel
theorem dL_law_1871 : decode cL_law 1871 = .ok (.iload 6, 2) := by decide +kernel
theorem dL_law_1873 : decode cL_law 1873 = .ok (.ifCond .eq 7, 3) := by decide +kernel
theorem dL_law_1876 : decode cL_law 1876 = .ok (.lconst 1, 1) := by decide +kernel
theorem dL_law_1877 : decode cL_law 1877 = .ok (.goto 4, 3) := by decide +kernel
theorem dL_law_1880 : decode cL_law 1880 = .ok (.lconst 0, 1) := by decide +kernel
theorem dL_law_1881 : decode cL_law 1881 = .ok (.lcmp, 1) := by decide +kernel
theorem dL_law_1882 : decode cL_law 1882 = .ok (.ifCond .eq 5, 3) := by decide +kernel
theorem dL_law_1885 : decode cL_law 1885 = .ok (.iconst 0, 1) := by decide +kernel
theorem dL_law_1886 : decode cL_law 1886 = .ok (.ireturn, 1) := by decide +kernel
theorem dL_law_1887 : decode cL_law 1887 = .ok (.goto 1675, 3) := by decide +kernel
theorem dL_law_1890 : decode cL_law 1890 = .ok (.aload_n 1, 1) := by decide +kernel
theorem dL_law_1891 : decode cL_law 1891 = .ok (.aload_n 0, 1) := by decide +kernel
theorem dL_law_1892 : decode cL_law 1892 = .ok (.iload 4, 2) := by decide +kernel
theorem dL_law_1894 : decode cL_law 1894 = .ok (.iconst 1, 1) := by decide +kernel
theorem dL_law_1895 : decode cL_law 1895 = .ok (.iadd, 1) := by decide +kernel
theorem dL_law_1896 : decode cL_law 1896 = .ok (.iaload, 1) := by decide +kernel
theorem dL_law_1897 : decode cL_law 1897 = .ok (.aload_n 3, 1) := by decide +kernel
theorem dL_law_1898 : decode cL_law 1898 = .ok (.invokestatic 279, 3) := by decide +kernel
theorem dL_law_1901 : decode cL_law 1901 = .ok (.istore 5, 2) := by decide +kernel
theorem dL_law_1903 : decode cL_law 1903 = .ok (.aload_n 2, 1) := by decide +kernel
theorem dL_law_1904 : decode cL_law 1904 = .ok (.aload_n 0, 1) := by decide +kernel
theorem dL_law_1905 : decode cL_law 1905 = .ok (.iload 4, 2) := by decide +kernel
theorem dL_law_1907 : decode cL_law 1907 = .ok (.iconst 1, 1) := by decide +kernel
theorem dL_law_1908 : decode cL_law 1908 = .ok (.iadd, 1) := by decide +kernel
theorem dL_law_1909 : decode cL_law 1909 = .ok (.iaload, 1) := by decide +kernel
theorem dL_law_1910 : decode cL_law 1910 = .ok (.invokevirtual 281, 3) := by decide +kernel
theorem dL_law_1913 : decode cL_law 1913 = .ok (.istore 6, 2) := by decide +kernel
theorem dL_law_1915 : decode cL_law 1915 = .ok (.aload_n 2, 1) := by decide +kernel
theorem dL_law_1916 : decode cL_law 1916 = .ok (.invokevirtual 188, 3) := by decide +kernel
theorem dL_law_1919 : decode cL_law 1919 = .ok (.iload 5, 2) := by decide +kernel
theorem dL_law_1921 : decode cL_law 1921 = .ok (.if_icmp .eq 5, 3) := by decide +kernel
theorem dL_law_1924 : decode cL_law 1924 = .ok (.iconst 0, 1) := by decide +kernel
theorem dL_law_1925 : decode cL_law 1925 = .ok (.ireturn, 1) := by decide +kernel
theorem dL_law_1926 : decode cL_law 1926 = .ok (.iload 5, 2) := by decide +kernel
theorem dL_law_1928 : decode cL_law 1928 = .ok (.ifCond .ne 15, 3) := by decide +kernel
theorem dL_law_1931 : decode cL_law 1931 = .ok (.aload_n 3, 1) := by decide +kernel
theorem dL_law_1932 : decode cL_law 1932 = .ok (.iconst 0, 1) := by decide +kernel
theorem dL_law_1933 : decode cL_law 1933 = .ok (.laload, 1) := by decide +kernel
theorem dL_law_1934 : decode cL_law 1934 = .ok (.iload 6, 2) := by decide +kernel
theorem dL_law_1936 : decode cL_law 1936 = .ok (.i2l, 1) := by decide +kernel
theorem dL_law_1937 : decode cL_law 1937 = .ok (.lcmp, 1) := by decide +kernel
theorem dL_law_1938 : decode cL_law 1938 = .ok (.ifCond .eq 5, 3) := by decide +kernel
theorem dL_law_1941 : decode cL_law 1941 = .ok (.iconst 0, 1) := by decide +kernel
theorem dL_law_1942 : decode cL_law 1942 = .ok (.ireturn, 1) := by decide +kernel
theorem dL_law_1943 : decode cL_law 1943 = .ok (.goto 1619, 3) := by decide +kernel
theorem dL_law_1946 : decode cL_law 1946 = .ok (.aload_n 1, 1) := by decide +kernel
theorem dL_law_1947 : decode cL_law 1947 = .ok (.aload_n 0, 1) := by decide +kernel
theorem dL_law_1948 : decode cL_law 1948 = .ok (.iload 4, 2) := by decide +kernel
theorem dL_law_1950 : decode cL_law 1950 = .ok (.iconst 1, 1) := by decide +kernel
theorem dL_law_1951 : decode cL_law 1951 = .ok (.iadd, 1) := by decide +kernel
theorem dL_law_1952 : decode cL_law 1952 = .ok (.iaload, 1) := by decide +kernel
theorem dL_law_1953 : decode cL_law 1953 = .ok (.aload_n 3, 1) := by decide +kernel
theorem dL_law_1954 : decode cL_law 1954 = .ok (.invokestatic 282, 3) := by decide +kernel
theorem dL_law_1957 : decode cL_law 1957 = .ok (.istore 5, 2) := by decide +kernel
theorem dL_law_1959 : decode cL_law 1959 = .ok (.aload_n 2, 1) := by decide +kernel
theorem dL_law_1960 : decode cL_law 1960 = .ok (.aload_n 0, 1) := by decide +kernel
theorem dL_law_1961 : decode cL_law 1961 = .ok (.iload 4, 2) := by decide +kernel
theorem dL_law_1963 : decode cL_law 1963 = .ok (.iconst 1, 1) := by decide +kernel
theorem dL_law_1964 : decode cL_law 1964 = .ok (.iadd, 1) := by decide +kernel
theorem dL_law_1965 : decode cL_law 1965 = .ok (.iaload, 1) := by decide +kernel
theorem dL_law_1966 : decode cL_law 1966 = .ok (.invokevirtual 284, 3) := by decide +kernel
theorem dL_law_1969 : decode cL_law 1969 = .ok (.istore 6, 2) := by decide +kernel
theorem dL_law_1971 : decode cL_law 1971 = .ok (.aload_n 2, 1) := by decide +kernel
theorem dL_law_1972 : decode cL_law 1972 = .ok (.invokevirtual 188, 3) := by decide +kernel
theorem dL_law_1975 : decode cL_law 1975 = .ok (.iload 5, 2) := by decide +kernel
theorem dL_law_1977 : decode cL_law 1977 = .ok (.if_icmp .eq 5, 3) := by decide +kernel
theorem dL_law_1980 : decode cL_law 1980 = .ok (.iconst 0, 1) := by decide +kernel
theorem dL_law_1981 : decode cL_law 1981 = .ok (.ireturn, 1) := by decide +kernel
theorem dL_law_1982 : decode cL_law 1982 = .ok (.iload 5, 2) := by decide +kernel
theorem dL_law_1984 : decode cL_law 1984 = .ok (.ifCond .ne 15, 3) := by decide +kernel
theorem dL_law_1987 : decode cL_law 1987 = .ok (.aload_n 3, 1) := by decide +kernel
theorem dL_law_1988 : decode cL_law 1988 = .ok (.iconst 0, 1) := by decide +kernel
theorem dL_law_1989 : decode cL_law 1989 = .ok (.laload, 1) := by decide +kernel
theorem dL_law_1990 : decode cL_law 1990 = .ok (.iload 6, 2) := by decide +kernel
theorem dL_law_1992 : decode cL_law 1992 = .ok (.i2l, 1) := by decide +kernel
theorem dL_law_1993 : decode cL_law 1993 = .ok (.lcmp, 1) := by decide +kernel
theorem dL_law_1994 : decode cL_law 1994 = .ok (.ifCond .eq 5, 3) := by decide +kernel
theorem dL_law_1997 : decode cL_law 1997 = .ok (.iconst 0, 1) := by decide +kernel
theorem dL_law_1998 : decode cL_law 1998 = .ok (.ireturn, 1) := by decide +kernel
theorem dL_law_1999 : decode cL_law 1999 = .ok (.goto 1563, 3) := by decide +kernel
theorem dL_law_2002 : decode cL_law 2002 = .ok (.aload_n 1, 1) := by decide +kernel
theorem dL_law_2003 : decode cL_law 2003 = .ok (.aload_n 0, 1) := by decide +kernel
theorem dL_law_2004 : decode cL_law 2004 = .ok (.iload 4, 2) := by decide +kernel
theorem dL_law_2006 : decode cL_law 2006 = .ok (.iconst 1, 1) := by decide +kernel
theorem dL_law_2007 : decode cL_law 2007 = .ok (.iadd, 1) := by decide +kernel
theorem dL_law_2008 : decode cL_law 2008 = .ok (.iaload, 1) := by decide +kernel
theorem dL_law_2009 : decode cL_law 2009 = .ok (.aload_n 0, 1) := by decide +kernel
theorem dL_law_2010 : decode cL_law 2010 = .ok (.iload 4, 2) := by decide +kernel
theorem dL_law_2012 : decode cL_law 2012 = .ok (.iconst 2, 1) := by decide +kernel
theorem dL_law_2013 : decode cL_law 2013 = .ok (.iadd, 1) := by decide +kernel
theorem dL_law_2014 : decode cL_law 2014 = .ok (.iaload, 1) := by decide +kernel
theorem dL_law_2015 : decode cL_law 2015 = .ok (.aload_n 3, 1) := by decide +kernel
theorem dL_law_2016 : decode cL_law 2016 = .ok (.invokestatic 285, 3) := by decide +kernel
theorem dL_law_2019 : decode cL_law 2019 = .ok (.istore 5, 2) := by decide +kernel
theorem dL_law_2021 : decode cL_law 2021 = .ok (.aload_n 2, 1) := by decide +kernel
theorem dL_law_2022 : decode cL_law 2022 = .ok (.aload_n 0, 1) := by decide +kernel
theorem dL_law_2023 : decode cL_law 2023 = .ok (.iload 4, 2) := by decide +kernel
theorem dL_law_2025 : decode cL_law 2025 = .ok (.iconst 1, 1) := by decide +kernel
theorem dL_law_2026 : decode cL_law 2026 = .ok (.iadd, 1) := by decide +kernel
theorem dL_law_2027 : decode cL_law 2027 = .ok (.iaload, 1) := by decide +kernel
theorem dL_law_2028 : decode cL_law 2028 = .ok (.aload_n 0, 1) := by decide +kernel
theorem dL_law_2029 : decode cL_law 2029 = .ok (.iload 4, 2) := by decide +kernel
theorem dL_law_2031 : decode cL_law 2031 = .ok (.iconst 2, 1) := by decide +kernel
theorem dL_law_2032 : decode cL_law 2032 = .ok (.iadd, 1) := by decide +kernel
theorem dL_law_2033 : decode cL_law 2033 = .ok (.iaload, 1) := by decide +kernel
theorem dL_law_2034 : decode cL_law 2034 = .ok (.invokevirtual 287, 3) := by decide +kernel
theorem dL_law_2037 : decode cL_law 2037 = .ok (.istore 6, 2) := by decide +kernel
theorem dL_law_2039 : decode cL_law 2039 = .ok (.aload_n 2, 1) := by decide +kernel
theorem dL_law_2040 : decode cL_law 2040 = .ok (.invokevirtual 188, 3) := by decide +kernel
theorem dL_law_2043 : decode cL_law 2043 = .ok (.iload 5, 2) := by decide +kernel
theorem dL_law_2045 : decode cL_law 2045 = .ok (.if_icmp .eq 5, 3) := by decide +kernel
theorem dL_law_2048 : decode cL_law 2048 = .ok (.iconst 0, 1) := by decide +kernel
theorem dL_law_2049 : decode cL_law 2049 = .ok (.ireturn, 1) := by decide +kernel
theorem dL_law_2050 : decode cL_law 2050 = .ok (.iload 5, 2) := by decide +kernel
theorem dL_law_2052 : decode cL_law 2052 = .ok (.ifCond .ne 15, 3) := by decide +kernel
theorem dL_law_2055 : decode cL_law 2055 = .ok (.aload_n 3, 1) := by decide +kernel
theorem dL_law_2056 : decode cL_law 2056 = .ok (.iconst 0, 1) := by decide +kernel
theorem dL_law_2057 : decode cL_law 2057 = .ok (.laload, 1) := by decide +kernel
theorem dL_law_2058 : decode cL_law 2058 = .ok (.iload 6, 2) := by decide +kernel
theorem dL_law_2060 : decode cL_law 2060 = .ok (.i2l, 1) := by decide +kernel
theorem dL_law_2061 : decode cL_law 2061 = .ok (.lcmp, 1) := by decide +kernel
theorem dL_law_2062 : decode cL_law 2062 = .ok (.ifCond .eq 5, 3) := by decide +kernel
theorem dL_law_2065 : decode cL_law 2065 = .ok (.iconst 0, 1) := by decide +kernel
theorem dL_law_2066 : decode cL_law 2066 = .ok (.ireturn, 1) := by decide +kernel
theorem dL_law_2067 : decode cL_law 2067 = .ok (.goto 1495, 3) := by decide +kernel
theorem dL_law_2070 : decode cL_law 2070 = .ok (.aload_n 1, 1) := by decide +kernel
theorem dL_law_2071 : decode cL_law 2071 = .ok (.aload_n 0, 1) := by decide +kernel
theorem dL_law_2072 : decode cL_law 2072 = .ok (.iload 4, 2) := by decide +kernel
theorem dL_law_2074 : decode cL_law 2074 = .ok (.iconst 1, 1) := by decide +kernel
theorem dL_law_2075 : decode cL_law 2075 = .ok (.iadd, 1) := by decide +kernel
theorem dL_law_2076 : decode cL_law 2076 = .ok (.iaload, 1) := by decide +kernel
theorem dL_law_2077 : decode cL_law 2077 = .ok (.aload_n 0, 1) := by decide +kernel
theorem dL_law_2078 : decode cL_law 2078 = .ok (.iload 4, 2) := by decide +kernel
theorem dL_law_2080 : decode cL_law 2080 = .ok (.iconst 2, 1) := by decide +kernel
theorem dL_law_2081 : decode cL_law 2081 = .ok (.iadd, 1) := by decide +kernel
theorem dL_law_2082 : decode cL_law 2082 = .ok (.iaload, 1) := by decide +kernel
theorem dL_law_2083 : decode cL_law 2083 = .ok (.aload_n 3, 1) := by decide +kernel
theorem dL_law_2084 : decode cL_law 2084 = .ok (.invokestatic 288, 3) := by decide +kernel
theorem dL_law_2087 : decode cL_law 2087 = .ok (.istore 5, 2) := by decide +kernel
theorem dL_law_2089 : decode cL_law 2089 = .ok (.aload_n 2, 1) := by decide +kernel
theorem dL_law_2090 : decode cL_law 2090 = .ok (.aload_n 0, 1) := by decide +kernel
theorem dL_law_2091 : decode cL_law 2091 = .ok (.iload 4, 2) := by decide +kernel
theorem dL_law_2093 : decode cL_law 2093 = .ok (.iconst 1, 1) := by decide +kernel
theorem dL_law_2094 : decode cL_law 2094 = .ok (.iadd, 1) := by decide +kernel
theorem dL_law_2095 : decode cL_law 2095 = .ok (.iaload, 1) := by decide +kernel
theorem dL_law_2096 : decode cL_law 2096 = .ok (.aload_n 0, 1) := by decide +kernel
theorem dL_law_2097 : decode cL_law 2097 = .ok (.iload 4, 2) := by decide +kernel
theorem dL_law_2099 : decode cL_law 2099 = .ok (.iconst 2, 1) := by decide +kernel
theorem dL_law_2100 : decode cL_law 2100 = .ok (.iadd, 1) := by decide +kernel
theorem dL_law_2101 : decode cL_law 2101 = .ok (.iaload, 1) := by decide +kernel
theorem dL_law_2102 : decode cL_law 2102 = .ok (.invokevirtual 290, 3) := by decide +kernel
theorem dL_law_2105 : decode cL_law 2105 = .ok (.istore 6, 2) := by decide +kernel
theorem dL_law_2107 : decode cL_law 2107 = .ok (.aload_n 2, 1) := by decide +kernel
theorem dL_law_2108 : decode cL_law 2108 = .ok (.invokevirtual 188, 3) := by decide +kernel
theorem dL_law_2111 : decode cL_law 2111 = .ok (.iload 5, 2) := by decide +kernel
theorem dL_law_2113 : decode cL_law 2113 = .ok (.if_icmp .eq 5, 3) := by decide +kernel
theorem dL_law_2116 : decode cL_law 2116 = .ok (.iconst 0, 1) := by decide +kernel
theorem dL_law_2117 : decode cL_law 2117 = .ok (.ireturn, 1) := by decide +kernel
theorem dL_law_2118 : decode cL_law 2118 = .ok (.iload 5, 2) := by decide +kernel
theorem dL_law_2120 : decode cL_law 2120 = .ok (.ifCond .ne 15, 3) := by decide +kernel
theorem dL_law_2123 : decode cL_law 2123 = .ok (.aload_n 3, 1) := by decide +kernel
theorem dL_law_2124 : decode cL_law 2124 = .ok (.iconst 0, 1) := by decide +kernel
theorem dL_law_2125 : decode cL_law 2125 = .ok (.laload, 1) := by decide +kernel
theorem dL_law_2126 : decode cL_law 2126 = .ok (.iload 6, 2) := by decide +kernel
theorem dL_law_2128 : decode cL_law 2128 = .ok (.i2l, 1) := by decide +kernel
theorem dL_law_2129 : decode cL_law 2129 = .ok (.lcmp, 1) := by decide +kernel
theorem dL_law_2130 : decode cL_law 2130 = .ok (.ifCond .eq 5, 3) := by decide +kernel
theorem dL_law_2133 : decode cL_law 2133 = .ok (.iconst 0, 1) := by decide +kernel
theorem dL_law_2134 : decode cL_law 2134 = .ok (.ireturn, 1) := by decide +kernel
theorem dL_law_2135 : decode cL_law 2135 = .ok (.goto 1427, 3) := by decide +kernel
theorem dL_law_2138 : decode cL_law 2138 = .ok (.aload_n 1, 1) := by decide +kernel
theorem dL_law_2139 : decode cL_law 2139 = .ok (.aload_n 0, 1) := by decide +kernel
theorem dL_law_2140 : decode cL_law 2140 = .ok (.iload 4, 2) := by decide +kernel
theorem dL_law_2142 : decode cL_law 2142 = .ok (.iconst 1, 1) := by decide +kernel
theorem dL_law_2143 : decode cL_law 2143 = .ok (.iadd, 1) := by decide +kernel
theorem dL_law_2144 : decode cL_law 2144 = .ok (.iaload, 1) := by decide +kernel
theorem dL_law_2145 : decode cL_law 2145 = .ok (.aload_n 0, 1) := by decide +kernel
theorem dL_law_2146 : decode cL_law 2146 = .ok (.iload 4, 2) := by decide +kernel
theorem dL_law_2148 : decode cL_law 2148 = .ok (.iconst 2, 1) := by decide +kernel
theorem dL_law_2149 : decode cL_law 2149 = .ok (.iadd, 1) := by decide +kernel
theorem dL_law_2150 : decode cL_law 2150 = .ok (.iaload, 1) := by decide +kernel
theorem dL_law_2151 : decode cL_law 2151 = .ok (.aload_n 0, 1) := by decide +kernel
theorem dL_law_2152 : decode cL_law 2152 = .ok (.iload 4, 2) := by decide +kernel
theorem dL_law_2154 : decode cL_law 2154 = .ok (.iconst 3, 1) := by decide +kernel
theorem dL_law_2155 : decode cL_law 2155 = .ok (.iadd, 1) := by decide +kernel
theorem dL_law_2156 : decode cL_law 2156 = .ok (.iaload, 1) := by decide +kernel
theorem dL_law_2157 : decode cL_law 2157 = .ok (.aload_n 3, 1) := by decide +kernel
theorem dL_law_2158 : decode cL_law 2158 = .ok (.invokestatic 291, 3) := by decide +kernel
theorem dL_law_2161 : decode cL_law 2161 = .ok (.istore 5, 2) := by decide +kernel
theorem dL_law_2163 : decode cL_law 2163 = .ok (.aload_n 2, 1) := by decide +kernel
theorem dL_law_2164 : decode cL_law 2164 = .ok (.aload_n 0, 1) := by decide +kernel
theorem dL_law_2165 : decode cL_law 2165 = .ok (.iload 4, 2) := by decide +kernel
theorem dL_law_2167 : decode cL_law 2167 = .ok (.iconst 1, 1) := by decide +kernel
theorem dL_law_2168 : decode cL_law 2168 = .ok (.iadd, 1) := by decide +kernel
theorem dL_law_2169 : decode cL_law 2169 = .ok (.iaload, 1) := by decide +kernel
theorem dL_law_2170 : decode cL_law 2170 = .ok (.aload_n 0, 1) := by decide +kernel
theorem dL_law_2171 : decode cL_law 2171 = .ok (.iload 4, 2) := by decide +kernel
theorem dL_law_2173 : decode cL_law 2173 = .ok (.iconst 2, 1) := by decide +kernel
theorem dL_law_2174 : decode cL_law 2174 = .ok (.iadd, 1) := by decide +kernel
theorem dL_law_2175 : decode cL_law 2175 = .ok (.iaload, 1) := by decide +kernel
theorem dL_law_2176 : decode cL_law 2176 = .ok (.aload_n 0, 1) := by decide +kernel
theorem dL_law_2177 : decode cL_law 2177 = .ok (.iload 4, 2) := by decide +kernel
theorem dL_law_2179 : decode cL_law 2179 = .ok (.iconst 3, 1) := by decide +kernel
theorem dL_law_2180 : decode cL_law 2180 = .ok (.iadd, 1) := by decide +kernel
theorem dL_law_2181 : decode cL_law 2181 = .ok (.iaload, 1) := by decide +kernel
theorem dL_law_2182 : decode cL_law 2182 = .ok (.invokevirtual 293, 3) := by decide +kernel
theorem dL_law_2185 : decode cL_law 2185 = .ok (.istore 6, 2) := by decide +kernel
theorem dL_law_2187 : decode cL_law 2187 = .ok (.aload_n 2, 1) := by decide +kernel
theorem dL_law_2188 : decode cL_law 2188 = .ok (.invokevirtual 188, 3) := by decide +kernel
theorem dL_law_2191 : decode cL_law 2191 = .ok (.iload 5, 2) := by decide +kernel
theorem dL_law_2193 : decode cL_law 2193 = .ok (.if_icmp .eq 5, 3) := by decide +kernel
theorem dL_law_2196 : decode cL_law 2196 = .ok (.iconst 0, 1) := by decide +kernel
theorem dL_law_2197 : decode cL_law 2197 = .ok (.ireturn, 1) := by decide +kernel
theorem dL_law_2198 : decode cL_law 2198 = .ok (.iload 5, 2) := by decide +kernel
theorem dL_law_2200 : decode cL_law 2200 = .ok (.ifCond .ne 15, 3) := by decide +kernel
theorem dL_law_2203 : decode cL_law 2203 = .ok (.aload_n 3, 1) := by decide +kernel
theorem dL_law_2204 : decode cL_law 2204 = .ok (.iconst 0, 1) := by decide +kernel
theorem dL_law_2205 : decode cL_law 2205 = .ok (.laload, 1) := by decide +kernel
theorem dL_law_2206 : decode cL_law 2206 = .ok (.iload 6, 2) := by decide +kernel
theorem dL_law_2208 : decode cL_law 2208 = .ok (.i2l, 1) := by decide +kernel
theorem dL_law_2209 : decode cL_law 2209 = .ok (.lcmp, 1) := by decide +kernel
theorem dL_law_2210 : decode cL_law 2210 = .ok (.ifCond .eq 5, 3) := by decide +kernel
theorem dL_law_2213 : decode cL_law 2213 = .ok (.iconst 0, 1) := by decide +kernel
theorem dL_law_2214 : decode cL_law 2214 = .ok (.ireturn, 1) := by decide +kernel
theorem dL_law_2215 : decode cL_law 2215 = .ok (.goto 1347, 3) := by decide +kernel
theorem dL_law_2218 : decode cL_law 2218 = .ok (.aload_n 1, 1) := by decide +kernel
theorem dL_law_2219 : decode cL_law 2219 = .ok (.invokevirtual 294, 3) := by decide +kernel
theorem dL_law_2222 : decode cL_law 2222 = .ok (.aload_n 2, 1) := by decide +kernel
theorem dL_law_2223 : decode cL_law 2223 = .ok (.invokevirtual 297, 3) := by decide +kernel
theorem dL_law_2226 : decode cL_law 2226 = .ok (.if_icmp .eq 1336, 3) := by decide +kernel
theorem dL_law_2229 : decode cL_law 2229 = .ok (.iconst 0, 1) := by decide +kernel
theorem dL_law_2230 : decode cL_law 2230 = .ok (.ireturn, 1) := by decide +kernel
theorem dL_law_2231 : decode cL_law 2231 = .ok (.aload_n 1, 1) := by decide +kernel
theorem dL_law_2232 : decode cL_law 2232 = .ok (.aload_n 0, 1) := by decide +kernel
theorem dL_law_2233 : decode cL_law 2233 = .ok (.iload 4, 2) := by decide +kernel
theorem dL_law_2235 : decode cL_law 2235 = .ok (.iconst 1, 1) := by decide +kernel
theorem dL_law_2236 : decode cL_law 2236 = .ok (.iadd, 1) := by decide +kernel
theorem dL_law_2237 : decode cL_law 2237 = .ok (.iaload, 1) := by decide +kernel
theorem dL_law_2238 : decode cL_law 2238 = .ok (.aload_n 0, 1) := by decide +kernel
theorem dL_law_2239 : decode cL_law 2239 = .ok (.iload 4, 2) := by decide +kernel
theorem dL_law_2241 : decode cL_law 2241 = .ok (.iconst 2, 1) := by decide +kernel
theorem dL_law_2242 : decode cL_law 2242 = .ok (.iadd, 1) := by decide +kernel
theorem dL_law_2243 : decode cL_law 2243 = .ok (.iaload, 1) := by decide +kernel
theorem dL_law_2244 : decode cL_law 2244 = .ok (.aload_n 3, 1) := by decide +kernel
theorem dL_law_2245 : decode cL_law 2245 = .ok (.invokestatic 298, 3) := by decide +kernel
theorem dL_law_2248 : decode cL_law 2248 = .ok (.istore 5, 2) := by decide +kernel
theorem dL_law_2250 : decode cL_law 2250 = .ok (.aload_n 2, 1) := by decide +kernel
theorem dL_law_2251 : decode cL_law 2251 = .ok (.aload_n 0, 1) := by decide +kernel
theorem dL_law_2252 : decode cL_law 2252 = .ok (.iload 4, 2) := by decide +kernel
theorem dL_law_2254 : decode cL_law 2254 = .ok (.iconst 1, 1) := by decide +kernel
theorem dL_law_2255 : decode cL_law 2255 = .ok (.iadd, 1) := by decide +kernel
theorem dL_law_2256 : decode cL_law 2256 = .ok (.iaload, 1) := by decide +kernel
theorem dL_law_2257 : decode cL_law 2257 = .ok (.aload_n 0, 1) := by decide +kernel
theorem dL_law_2258 : decode cL_law 2258 = .ok (.iload 4, 2) := by decide +kernel
theorem dL_law_2260 : decode cL_law 2260 = .ok (.iconst 2, 1) := by decide +kernel
theorem dL_law_2261 : decode cL_law 2261 = .ok (.iadd, 1) := by decide +kernel
theorem dL_law_2262 : decode cL_law 2262 = .ok (.iaload, 1) := by decide +kernel
theorem dL_law_2263 : decode cL_law 2263 = .ok (.invokevirtual 300, 3) := by decide +kernel
theorem dL_law_2266 : decode cL_law 2266 = .ok (.istore 6, 2) := by decide +kernel
theorem dL_law_2268 : decode cL_law 2268 = .ok (.aload_n 2, 1) := by decide +kernel
theorem dL_law_2269 : decode cL_law 2269 = .ok (.invokevirtual 188, 3) := by decide +kernel
theorem dL_law_2272 : decode cL_law 2272 = .ok (.iload 5, 2) := by decide +kernel
theorem dL_law_2274 : decode cL_law 2274 = .ok (.if_icmp .eq 5, 3) := by decide +kernel
theorem dL_law_2277 : decode cL_law 2277 = .ok (.iconst 0, 1) := by decide +kernel
theorem dL_law_2278 : decode cL_law 2278 = .ok (.ireturn, 1) := by decide +kernel
theorem dL_law_2279 : decode cL_law 2279 = .ok (.iload 5, 2) := by decide +kernel
theorem dL_law_2281 : decode cL_law 2281 = .ok (.ifCond .ne 15, 3) := by decide +kernel
theorem dL_law_2284 : decode cL_law 2284 = .ok (.aload_n 3, 1) := by decide +kernel
theorem dL_law_2285 : decode cL_law 2285 = .ok (.iconst 0, 1) := by decide +kernel
theorem dL_law_2286 : decode cL_law 2286 = .ok (.laload, 1) := by decide +kernel
theorem dL_law_2287 : decode cL_law 2287 = .ok (.iload 6, 2) := by decide +kernel
theorem dL_law_2289 : decode cL_law 2289 = .ok (.i2l, 1) := by decide +kernel
theorem dL_law_2290 : decode cL_law 2290 = .ok (.lcmp, 1) := by decide +kernel
theorem dL_law_2291 : decode cL_law 2291 = .ok (.ifCond .eq 5, 3) := by decide +kernel
theorem dL_law_2294 : decode cL_law 2294 = .ok (.iconst 0, 1) := by decide +kernel
theorem dL_law_2295 : decode cL_law 2295 = .ok (.ireturn, 1) := by decide +kernel
theorem dL_law_2296 : decode cL_law 2296 = .ok (.goto 1266, 3) := by decide +kernel
theorem dL_law_2299 : decode cL_law 2299 = .ok (.aload_n 1, 1) := by decide +kernel
theorem dL_law_2300 : decode cL_law 2300 = .ok (.aload_n 0, 1) := by decide +kernel
theorem dL_law_2301 : decode cL_law 2301 = .ok (.iload 4, 2) := by decide +kernel
theorem dL_law_2303 : decode cL_law 2303 = .ok (.iconst 1, 1) := by decide +kernel
theorem dL_law_2304 : decode cL_law 2304 = .ok (.iadd, 1) := by decide +kernel
theorem dL_law_2305 : decode cL_law 2305 = .ok (.iaload, 1) := by decide +kernel
theorem dL_law_2306 : decode cL_law 2306 = .ok (.aload_n 0, 1) := by decide +kernel
theorem dL_law_2307 : decode cL_law 2307 = .ok (.iload 4, 2) := by decide +kernel
theorem dL_law_2309 : decode cL_law 2309 = .ok (.iconst 2, 1) := by decide +kernel
theorem dL_law_2310 : decode cL_law 2310 = .ok (.iadd, 1) := by decide +kernel
theorem dL_law_2311 : decode cL_law 2311 = .ok (.iaload, 1) := by decide +kernel
theorem dL_law_2312 : decode cL_law 2312 = .ok (.aload_n 3, 1) := by decide +kernel
theorem dL_law_2313 : decode cL_law 2313 = .ok (.invokestatic 301, 3) := by decide +kernel
theorem dL_law_2316 : decode cL_law 2316 = .ok (.istore 5, 2) := by decide +kernel
theorem dL_law_2318 : decode cL_law 2318 = .ok (.aload_n 2, 1) := by decide +kernel
theorem dL_law_2319 : decode cL_law 2319 = .ok (.aload_n 0, 1) := by decide +kernel
theorem dL_law_2320 : decode cL_law 2320 = .ok (.iload 4, 2) := by decide +kernel
theorem dL_law_2322 : decode cL_law 2322 = .ok (.iconst 1, 1) := by decide +kernel
theorem dL_law_2323 : decode cL_law 2323 = .ok (.iadd, 1) := by decide +kernel
theorem dL_law_2324 : decode cL_law 2324 = .ok (.iaload, 1) := by decide +kernel
theorem dL_law_2325 : decode cL_law 2325 = .ok (.aload_n 0, 1) := by decide +kernel
theorem dL_law_2326 : decode cL_law 2326 = .ok (.iload 4, 2) := by decide +kernel
theorem dL_law_2328 : decode cL_law 2328 = .ok (.iconst 2, 1) := by decide +kernel
theorem dL_law_2329 : decode cL_law 2329 = .ok (.iadd, 1) := by decide +kernel
theorem dL_law_2330 : decode cL_law 2330 = .ok (.iaload, 1) := by decide +kernel
theorem dL_law_2331 : decode cL_law 2331 = .ok (.invokevirtual 303, 3) := by decide +kernel
theorem dL_law_2334 : decode cL_law 2334 = .ok (.istore 6, 2) := by decide +kernel
theorem dL_law_2336 : decode cL_law 2336 = .ok (.aload_n 2, 1) := by decide +kernel
theorem dL_law_2337 : decode cL_law 2337 = .ok (.invokevirtual 188, 3) := by decide +kernel
theorem dL_law_2340 : decode cL_law 2340 = .ok (.iload 5, 2) := by decide +kernel
theorem dL_law_2342 : decode cL_law 2342 = .ok (.if_icmp .eq 5, 3) := by decide +kernel
theorem dL_law_2345 : decode cL_law 2345 = .ok (.iconst 0, 1) := by decide +kernel
theorem dL_law_2346 : decode cL_law 2346 = .ok (.ireturn, 1) := by decide +kernel
theorem dL_law_2347 : decode cL_law 2347 = .ok (.iload 5, 2) := by decide +kernel
theorem dL_law_2349 : decode cL_law 2349 = .ok (.ifCond .ne 15, 3) := by decide +kernel
theorem dL_law_2352 : decode cL_law 2352 = .ok (.aload_n 3, 1) := by decide +kernel
theorem dL_law_2353 : decode cL_law 2353 = .ok (.iconst 0, 1) := by decide +kernel
theorem dL_law_2354 : decode cL_law 2354 = .ok (.laload, 1) := by decide +kernel
theorem dL_law_2355 : decode cL_law 2355 = .ok (.iload 6, 2) := by decide +kernel
theorem dL_law_2357 : decode cL_law 2357 = .ok (.i2l, 1) := by decide +kernel
theorem dL_law_2358 : decode cL_law 2358 = .ok (.lcmp, 1) := by decide +kernel
theorem dL_law_2359 : decode cL_law 2359 = .ok (.ifCond .eq 5, 3) := by decide +kernel
theorem dL_law_2362 : decode cL_law 2362 = .ok (.iconst 0, 1) := by decide +kernel
theorem dL_law_2363 : decode cL_law 2363 = .ok (.ireturn, 1) := by decide +kernel
theorem dL_law_2364 : decode cL_law 2364 = .ok (.goto 1198, 3) := by decide +kernel
theorem dL_law_2367 : decode cL_law 2367 = .ok (.aload_n 1, 1) := by decide +kernel
theorem dL_law_2368 : decode cL_law 2368 = .ok (.aload_n 0, 1) := by decide +kernel
theorem dL_law_2369 : decode cL_law 2369 = .ok (.iload 4, 2) := by decide +kernel
theorem dL_law_2371 : decode cL_law 2371 = .ok (.iconst 1, 1) := by decide +kernel
theorem dL_law_2372 : decode cL_law 2372 = .ok (.iadd, 1) := by decide +kernel
theorem dL_law_2373 : decode cL_law 2373 = .ok (.iaload, 1) := by decide +kernel
theorem dL_law_2374 : decode cL_law 2374 = .ok (.aload_n 0, 1) := by decide +kernel
theorem dL_law_2375 : decode cL_law 2375 = .ok (.iload 4, 2) := by decide +kernel
theorem dL_law_2377 : decode cL_law 2377 = .ok (.iconst 2, 1) := by decide +kernel
theorem dL_law_2378 : decode cL_law 2378 = .ok (.iadd, 1) := by decide +kernel
theorem dL_law_2379 : decode cL_law 2379 = .ok (.iaload, 1) := by decide +kernel
theorem dL_law_2380 : decode cL_law 2380 = .ok (.aload_n 3, 1) := by decide +kernel
theorem dL_law_2381 : decode cL_law 2381 = .ok (.invokestatic 304, 3) := by decide +kernel
theorem dL_law_2384 : decode cL_law 2384 = .ok (.istore 5, 2) := by decide +kernel
theorem dL_law_2386 : decode cL_law 2386 = .ok (.aload_n 2, 1) := by decide +kernel
theorem dL_law_2387 : decode cL_law 2387 = .ok (.aload_n 0, 1) := by decide +kernel
theorem dL_law_2388 : decode cL_law 2388 = .ok (.iload 4, 2) := by decide +kernel
theorem dL_law_2390 : decode cL_law 2390 = .ok (.iconst 1, 1) := by decide +kernel
theorem dL_law_2391 : decode cL_law 2391 = .ok (.iadd, 1) := by decide +kernel
theorem dL_law_2392 : decode cL_law 2392 = .ok (.iaload, 1) := by decide +kernel
theorem dL_law_2393 : decode cL_law 2393 = .ok (.aload_n 0, 1) := by decide +kernel
theorem dL_law_2394 : decode cL_law 2394 = .ok (.iload 4, 2) := by decide +kernel
theorem dL_law_2396 : decode cL_law 2396 = .ok (.iconst 2, 1) := by decide +kernel
theorem dL_law_2397 : decode cL_law 2397 = .ok (.iadd, 1) := by decide +kernel
theorem dL_law_2398 : decode cL_law 2398 = .ok (.iaload, 1) := by decide +kernel
theorem dL_law_2399 : decode cL_law 2399 = .ok (.invokevirtual 306, 3) := by decide +kernel
theorem dL_law_2402 : decode cL_law 2402 = .ok (.istore 6, 2) := by decide +kernel
theorem dL_law_2404 : decode cL_law 2404 = .ok (.aload_n 2, 1) := by decide +kernel
theorem dL_law_2405 : decode cL_law 2405 = .ok (.invokevirtual 188, 3) := by decide +kernel
theorem dL_law_2408 : decode cL_law 2408 = .ok (.iload 5, 2) := by decide +kernel
theorem dL_law_2410 : decode cL_law 2410 = .ok (.if_icmp .eq 5, 3) := by decide +kernel
theorem dL_law_2413 : decode cL_law 2413 = .ok (.iconst 0, 1) := by decide +kernel
theorem dL_law_2414 : decode cL_law 2414 = .ok (.ireturn, 1) := by decide +kernel
theorem dL_law_2415 : decode cL_law 2415 = .ok (.iload 5, 2) := by decide +kernel
theorem dL_law_2417 : decode cL_law 2417 = .ok (.ifCond .ne 15, 3) := by decide +kernel
theorem dL_law_2420 : decode cL_law 2420 = .ok (.aload_n 3, 1) := by decide +kernel
theorem dL_law_2421 : decode cL_law 2421 = .ok (.iconst 0, 1) := by decide +kernel
theorem dL_law_2422 : decode cL_law 2422 = .ok (.laload, 1) := by decide +kernel
theorem dL_law_2423 : decode cL_law 2423 = .ok (.iload 6, 2) := by decide +kernel
theorem dL_law_2425 : decode cL_law 2425 = .ok (.i2l, 1) := by decide +kernel
theorem dL_law_2426 : decode cL_law 2426 = .ok (.lcmp, 1) := by decide +kernel
theorem dL_law_2427 : decode cL_law 2427 = .ok (.ifCond .eq 5, 3) := by decide +kernel
theorem dL_law_2430 : decode cL_law 2430 = .ok (.iconst 0, 1) := by decide +kernel
theorem dL_law_2431 : decode cL_law 2431 = .ok (.ireturn, 1) := by decide +kernel
theorem dL_law_2432 : decode cL_law 2432 = .ok (.goto 1130, 3) := by decide +kernel
theorem dL_law_2435 : decode cL_law 2435 = .ok (.aload_n 1, 1) := by decide +kernel
theorem dL_law_2436 : decode cL_law 2436 = .ok (.aload_n 0, 1) := by decide +kernel
theorem dL_law_2437 : decode cL_law 2437 = .ok (.iload 4, 2) := by decide +kernel
theorem dL_law_2439 : decode cL_law 2439 = .ok (.iconst 1, 1) := by decide +kernel
theorem dL_law_2440 : decode cL_law 2440 = .ok (.iadd, 1) := by decide +kernel
theorem dL_law_2441 : decode cL_law 2441 = .ok (.iaload, 1) := by decide +kernel
theorem dL_law_2442 : decode cL_law 2442 = .ok (.aload_n 0, 1) := by decide +kernel
theorem dL_law_2443 : decode cL_law 2443 = .ok (.iload 4, 2) := by decide +kernel
theorem dL_law_2445 : decode cL_law 2445 = .ok (.iconst 2, 1) := by decide +kernel
theorem dL_law_2446 : decode cL_law 2446 = .ok (.iadd, 1) := by decide +kernel
theorem dL_law_2447 : decode cL_law 2447 = .ok (.iaload, 1) := by decide +kernel
theorem dL_law_2448 : decode cL_law 2448 = .ok (.aload_n 0, 1) := by decide +kernel
theorem dL_law_2449 : decode cL_law 2449 = .ok (.iload 4, 2) := by decide +kernel
theorem dL_law_2451 : decode cL_law 2451 = .ok (.iconst 3, 1) := by decide +kernel
theorem dL_law_2452 : decode cL_law 2452 = .ok (.iadd, 1) := by decide +kernel
theorem dL_law_2453 : decode cL_law 2453 = .ok (.iaload, 1) := by decide +kernel
theorem dL_law_2454 : decode cL_law 2454 = .ok (.aload_n 3, 1) := by decide +kernel
theorem dL_law_2455 : decode cL_law 2455 = .ok (.invokestatic 307, 3) := by decide +kernel
theorem dL_law_2458 : decode cL_law 2458 = .ok (.istore 5, 2) := by decide +kernel
theorem dL_law_2460 : decode cL_law 2460 = .ok (.aload_n 2, 1) := by decide +kernel
theorem dL_law_2461 : decode cL_law 2461 = .ok (.aload_n 0, 1) := by decide +kernel
theorem dL_law_2462 : decode cL_law 2462 = .ok (.iload 4, 2) := by decide +kernel
theorem dL_law_2464 : decode cL_law 2464 = .ok (.iconst 1, 1) := by decide +kernel
theorem dL_law_2465 : decode cL_law 2465 = .ok (.iadd, 1) := by decide +kernel
theorem dL_law_2466 : decode cL_law 2466 = .ok (.iaload, 1) := by decide +kernel
theorem dL_law_2467 : decode cL_law 2467 = .ok (.aload_n 0, 1) := by decide +kernel
theorem dL_law_2468 : decode cL_law 2468 = .ok (.iload 4, 2) := by decide +kernel
theorem dL_law_2470 : decode cL_law 2470 = .ok (.iconst 2, 1) := by decide +kernel
theorem dL_law_2471 : decode cL_law 2471 = .ok (.iadd, 1) := by decide +kernel
theorem dL_law_2472 : decode cL_law 2472 = .ok (.iaload, 1) := by decide +kernel
theorem dL_law_2473 : decode cL_law 2473 = .ok (.aload_n 0, 1) := by decide +kernel
theorem dL_law_2474 : decode cL_law 2474 = .ok (.iload 4, 2) := by decide +kernel
theorem dL_law_2476 : decode cL_law 2476 = .ok (.iconst 3, 1) := by decide +kernel
theorem dL_law_2477 : decode cL_law 2477 = .ok (.iadd, 1) := by decide +kernel
theorem dL_law_2478 : decode cL_law 2478 = .ok (.iaload, 1) := by decide +kernel
theorem dL_law_2479 : decode cL_law 2479 = .ok (.invokevirtual 309, 3) := by decide +kernel
theorem dL_law_2482 : decode cL_law 2482 = .ok (.istore 6, 2) := by decide +kernel
theorem dL_law_2484 : decode cL_law 2484 = .ok (.aload_n 2, 1) := by decide +kernel
theorem dL_law_2485 : decode cL_law 2485 = .ok (.invokevirtual 188, 3) := by decide +kernel
theorem dL_law_2488 : decode cL_law 2488 = .ok (.iload 5, 2) := by decide +kernel
theorem dL_law_2490 : decode cL_law 2490 = .ok (.if_icmp .eq 5, 3) := by decide +kernel
theorem dL_law_2493 : decode cL_law 2493 = .ok (.iconst 0, 1) := by decide +kernel
theorem dL_law_2494 : decode cL_law 2494 = .ok (.ireturn, 1) := by decide +kernel
theorem dL_law_2495 : decode cL_law 2495 = .ok (.iload 5, 2) := by decide +kernel
theorem dL_law_2497 : decode cL_law 2497 = .ok (.ifCond .ne 15, 3) := by decide +kernel
theorem dL_law_2500 : decode cL_law 2500 = .ok (.aload_n 3, 1) := by decide +kernel
theorem dL_law_2501 : decode cL_law 2501 = .ok (.iconst 0, 1) := by decide +kernel
theorem dL_law_2502 : decode cL_law 2502 = .ok (.laload, 1) := by decide +kernel
theorem dL_law_2503 : decode cL_law 2503 = .ok (.iload 6, 2) := by decide +kernel
theorem dL_law_2505 : decode cL_law 2505 = .ok (.i2l, 1) := by decide +kernel
theorem dL_law_2506 : decode cL_law 2506 = .ok (.lcmp, 1) := by decide +kernel
theorem dL_law_2507 : decode cL_law 2507 = .ok (.ifCond .eq 5, 3) := by decide +kernel
theorem dL_law_2510 : decode cL_law 2510 = .ok (.iconst 0, 1) := by decide +kernel
theorem dL_law_2511 : decode cL_law 2511 = .ok (.ireturn, 1) := by decide +kernel
theorem dL_law_2512 : decode cL_law 2512 = .ok (.goto 1050, 3) := by decide +kernel
theorem dL_law_2515 : decode cL_law 2515 = .ok (.aload_n 1, 1) := by decide +kernel
theorem dL_law_2516 : decode cL_law 2516 = .ok (.aload_n 0, 1) := by decide +kernel
theorem dL_law_2517 : decode cL_law 2517 = .ok (.iload 4, 2) := by decide +kernel
theorem dL_law_2519 : decode cL_law 2519 = .ok (.iconst 1, 1) := by decide +kernel
theorem dL_law_2520 : decode cL_law 2520 = .ok (.iadd, 1) := by decide +kernel
theorem dL_law_2521 : decode cL_law 2521 = .ok (.iaload, 1) := by decide +kernel
theorem dL_law_2522 : decode cL_law 2522 = .ok (.aload_n 0, 1) := by decide +kernel
theorem dL_law_2523 : decode cL_law 2523 = .ok (.iload 4, 2) := by decide +kernel
theorem dL_law_2525 : decode cL_law 2525 = .ok (.iconst 2, 1) := by decide +kernel
theorem dL_law_2526 : decode cL_law 2526 = .ok (.iadd, 1) := by decide +kernel
theorem dL_law_2527 : decode cL_law 2527 = .ok (.iaload, 1) := by decide +kernel
theorem dL_law_2528 : decode cL_law 2528 = .ok (.aload_n 3, 1) := by decide +kernel
theorem dL_law_2529 : decode cL_law 2529 = .ok (.invokestatic 310, 3) := by decide +kernel
theorem dL_law_2532 : decode cL_law 2532 = .ok (.istore 5, 2) := by decide +kernel
theorem dL_law_2534 : decode cL_law 2534 = .ok (.aload_n 2, 1) := by decide +kernel
theorem dL_law_2535 : decode cL_law 2535 = .ok (.aload_n 0, 1) := by decide +kernel
theorem dL_law_2536 : decode cL_law 2536 = .ok (.iload 4, 2) := by decide +kernel
theorem dL_law_2538 : decode cL_law 2538 = .ok (.iconst 1, 1) := by decide +kernel
theorem dL_law_2539 : decode cL_law 2539 = .ok (.iadd, 1) := by decide +kernel
theorem dL_law_2540 : decode cL_law 2540 = .ok (.iaload, 1) := by decide +kernel
theorem dL_law_2541 : decode cL_law 2541 = .ok (.aload_n 0, 1) := by decide +kernel
theorem dL_law_2542 : decode cL_law 2542 = .ok (.iload 4, 2) := by decide +kernel
theorem dL_law_2544 : decode cL_law 2544 = .ok (.iconst 2, 1) := by decide +kernel
theorem dL_law_2545 : decode cL_law 2545 = .ok (.iadd, 1) := by decide +kernel
theorem dL_law_2546 : decode cL_law 2546 = .ok (.iaload, 1) := by decide +kernel
theorem dL_law_2547 : decode cL_law 2547 = .ok (.invokevirtual 312, 3) := by decide +kernel
theorem dL_law_2550 : decode cL_law 2550 = .ok (.istore 6, 2) := by decide +kernel
theorem dL_law_2552 : decode cL_law 2552 = .ok (.aload_n 2, 1) := by decide +kernel
theorem dL_law_2553 : decode cL_law 2553 = .ok (.invokevirtual 188, 3) := by decide +kernel
theorem dL_law_2556 : decode cL_law 2556 = .ok (.iload 5, 2) := by decide +kernel
theorem dL_law_2558 : decode cL_law 2558 = .ok (.if_icmp .eq 5, 3) := by decide +kernel
theorem dL_law_2561 : decode cL_law 2561 = .ok (.iconst 0, 1) := by decide +kernel
theorem dL_law_2562 : decode cL_law 2562 = .ok (.ireturn, 1) := by decide +kernel
theorem dL_law_2563 : decode cL_law 2563 = .ok (.iload 5, 2) := by decide +kernel
theorem dL_law_2565 : decode cL_law 2565 = .ok (.ifCond .ne 15, 3) := by decide +kernel
theorem dL_law_2568 : decode cL_law 2568 = .ok (.aload_n 3, 1) := by decide +kernel
theorem dL_law_2569 : decode cL_law 2569 = .ok (.iconst 0, 1) := by decide +kernel
theorem dL_law_2570 : decode cL_law 2570 = .ok (.laload, 1) := by decide +kernel
theorem dL_law_2571 : decode cL_law 2571 = .ok (.iload 6, 2) := by decide +kernel
theorem dL_law_2573 : decode cL_law 2573 = .ok (.i2l, 1) := by decide +kernel
theorem dL_law_2574 : decode cL_law 2574 = .ok (.lcmp, 1) := by decide +kernel
theorem dL_law_2575 : decode cL_law 2575 = .ok (.ifCond .eq 5, 3) := by decide +kernel
theorem dL_law_2578 : decode cL_law 2578 = .ok (.iconst 0, 1) := by decide +kernel
theorem dL_law_2579 : decode cL_law 2579 = .ok (.ireturn, 1) := by decide +kernel
theorem dL_law_2580 : decode cL_law 2580 = .ok (.goto 982, 3) := by decide +kernel
theorem dL_law_2583 : decode cL_law 2583 = .ok (.aload_n 1, 1) := by decide +kernel
theorem dL_law_2584 : decode cL_law 2584 = .ok (.aload_n 0, 1) := by decide +kernel
theorem dL_law_2585 : decode cL_law 2585 = .ok (.iload 4, 2) := by decide +kernel
theorem dL_law_2587 : decode cL_law 2587 = .ok (.iconst 1, 1) := by decide +kernel
theorem dL_law_2588 : decode cL_law 2588 = .ok (.iadd, 1) := by decide +kernel
theorem dL_law_2589 : decode cL_law 2589 = .ok (.iaload, 1) := by decide +kernel
theorem dL_law_2590 : decode cL_law 2590 = .ok (.aload_n 3, 1) := by decide +kernel
theorem dL_law_2591 : decode cL_law 2591 = .ok (.invokestatic 313, 3) := by decide +kernel
theorem dL_law_2594 : decode cL_law 2594 = .ok (.istore 5, 2) := by decide +kernel
theorem dL_law_2596 : decode cL_law 2596 = .ok (.aload_n 2, 1) := by decide +kernel
theorem dL_law_2597 : decode cL_law 2597 = .ok (.aload_n 0, 1) := by decide +kernel
theorem dL_law_2598 : decode cL_law 2598 = .ok (.iload 4, 2) := by decide +kernel
theorem dL_law_2600 : decode cL_law 2600 = .ok (.iconst 1, 1) := by decide +kernel
theorem dL_law_2601 : decode cL_law 2601 = .ok (.iadd, 1) := by decide +kernel
theorem dL_law_2602 : decode cL_law 2602 = .ok (.iaload, 1) := by decide +kernel
theorem dL_law_2603 : decode cL_law 2603 = .ok (.invokevirtual 315, 3) := by decide +kernel
theorem dL_law_2606 : decode cL_law 2606 = .ok (.istore 6, 2) := by decide +kernel
theorem dL_law_2608 : decode cL_law 2608 = .ok (.aload_n 2, 1) := by decide +kernel
theorem dL_law_2609 : decode cL_law 2609 = .ok (.invokevirtual 188, 3) := by decide +kernel
theorem dL_law_2612 : decode cL_law 2612 = .ok (.iload 5, 2) := by decide +kernel
theorem dL_law_2614 : decode cL_law 2614 = .ok (.if_icmp .eq 5, 3) := by decide +kernel
theorem dL_law_2617 : decode cL_law 2617 = .ok (.iconst 0, 1) := by decide +kernel
theorem dL_law_2618 : decode cL_law 2618 = .ok (.ireturn, 1) := by decide +kernel
theorem dL_law_2619 : decode cL_law 2619 = .ok (.iload 5, 2) := by decide +kernel
theorem dL_law_2621 : decode cL_law 2621 = .ok (.ifCond .ne 22, 3) := by decide +kernel
theorem dL_law_2624 : decode cL_law 2624 = .ok (.aload_n 3, 1) := by decide +kernel
theorem dL_law_2625 : decode cL_law 2625 = .ok (.iconst 0, 1) := by decide +kernel
theorem dL_law_2626 : decode cL_law 2626 = .ok (.laload, 1) := by decide +kernel
theorem dL_law_2627 : decode cL_law 2627 = .ok (.iload 6, 2) := by decide +kernel
theorem dL_law_2629 : decode cL_law 2629 = .ok (.ifCond .eq 7, 3) := by decide +kernel
theorem dL_law_2632 : decode cL_law 2632 = .ok (.lconst 1, 1) := by decide +kernel
theorem dL_law_2633 : decode cL_law 2633 = .ok (.goto 4, 3) := by decide +kernel
theorem dL_law_2636 : decode cL_law 2636 = .ok (.lconst 0, 1) := by decide +kernel
theorem dL_law_2637 : decode cL_law 2637 = .ok (.lcmp, 1) := by decide +kernel
theorem dL_law_2638 : decode cL_law 2638 = .ok (.ifCond .eq 5, 3) := by decide +kernel
theorem dL_law_2641 : decode cL_law 2641 = .ok (.iconst 0, 1) := by decide +kernel
theorem dL_law_2642 : decode cL_law 2642 = .ok (.ireturn, 1) := by decide +kernel
theorem dL_law_2643 : decode cL_law 2643 = .ok (.goto 919, 3) := by decide +kernel
theorem dL_law_2646 : decode cL_law 2646 = .ok (.aload_n 1, 1) := by decide +kernel
theorem dL_law_2647 : decode cL_law 2647 = .ok (.aload_n 0, 1) := by decide +kernel
theorem dL_law_2648 : decode cL_law 2648 = .ok (.iload 4, 2) := by decide +kernel
theorem dL_law_2650 : decode cL_law 2650 = .ok (.iconst 1, 1) := by decide +kernel
theorem dL_law_2651 : decode cL_law 2651 = .ok (.iadd, 1) := by decide +kernel
theorem dL_law_2652 : decode cL_law 2652 = .ok (.iaload, 1) := by decide +kernel
theorem dL_law_2653 : decode cL_law 2653 = .ok (.aload_n 3, 1) := by decide +kernel
theorem dL_law_2654 : decode cL_law 2654 = .ok (.invokestatic 316, 3) := by decide +kernel
theorem dL_law_2657 : decode cL_law 2657 = .ok (.istore 5, 2) := by decide +kernel
theorem dL_law_2659 : decode cL_law 2659 = .ok (.aload_n 2, 1) := by decide +kernel
theorem dL_law_2660 : decode cL_law 2660 = .ok (.aload_n 0, 1) := by decide +kernel
theorem dL_law_2661 : decode cL_law 2661 = .ok (.iload 4, 2) := by decide +kernel
theorem dL_law_2663 : decode cL_law 2663 = .ok (.iconst 1, 1) := by decide +kernel
theorem dL_law_2664 : decode cL_law 2664 = .ok (.iadd, 1) := by decide +kernel
theorem dL_law_2665 : decode cL_law 2665 = .ok (.iaload, 1) := by decide +kernel
theorem dL_law_2666 : decode cL_law 2666 = .ok (.invokevirtual 318, 3) := by decide +kernel
theorem dL_law_2669 : decode cL_law 2669 = .ok (.istore 6, 2) := by decide +kernel
theorem dL_law_2671 : decode cL_law 2671 = .ok (.aload_n 2, 1) := by decide +kernel
theorem dL_law_2672 : decode cL_law 2672 = .ok (.invokevirtual 188, 3) := by decide +kernel
theorem dL_law_2675 : decode cL_law 2675 = .ok (.iload 5, 2) := by decide +kernel
theorem dL_law_2677 : decode cL_law 2677 = .ok (.if_icmp .eq 5, 3) := by decide +kernel
theorem dL_law_2680 : decode cL_law 2680 = .ok (.iconst 0, 1) := by decide +kernel
theorem dL_law_2681 : decode cL_law 2681 = .ok (.ireturn, 1) := by decide +kernel
theorem dL_law_2682 : decode cL_law 2682 = .ok (.iload 5, 2) := by decide +kernel
theorem dL_law_2684 : decode cL_law 2684 = .ok (.ifCond .ne 15, 3) := by decide +kernel
theorem dL_law_2687 : decode cL_law 2687 = .ok (.aload_n 3, 1) := by decide +kernel
theorem dL_law_2688 : decode cL_law 2688 = .ok (.iconst 0, 1) := by decide +kernel
theorem dL_law_2689 : decode cL_law 2689 = .ok (.laload, 1) := by decide +kernel
theorem dL_law_2690 : decode cL_law 2690 = .ok (.iload 6, 2) := by decide +kernel
theorem dL_law_2692 : decode cL_law 2692 = .ok (.i2l, 1) := by decide +kernel
theorem dL_law_2693 : decode cL_law 2693 = .ok (.lcmp, 1) := by decide +kernel
theorem dL_law_2694 : decode cL_law 2694 = .ok (.ifCond .eq 5, 3) := by decide +kernel
theorem dL_law_2697 : decode cL_law 2697 = .ok (.iconst 0, 1) := by decide +kernel
theorem dL_law_2698 : decode cL_law 2698 = .ok (.ireturn, 1) := by decide +kernel
theorem dL_law_2699 : decode cL_law 2699 = .ok (.goto 863, 3) := by decide +kernel
theorem dL_law_2702 : decode cL_law 2702 = .ok (.aload_n 1, 1) := by decide +kernel
theorem dL_law_2703 : decode cL_law 2703 = .ok (.aload_n 0, 1) := by decide +kernel
theorem dL_law_2704 : decode cL_law 2704 = .ok (.iload 4, 2) := by decide +kernel
theorem dL_law_2706 : decode cL_law 2706 = .ok (.iconst 1, 1) := by decide +kernel
theorem dL_law_2707 : decode cL_law 2707 = .ok (.iadd, 1) := by decide +kernel
theorem dL_law_2708 : decode cL_law 2708 = .ok (.iaload, 1) := by decide +kernel
theorem dL_law_2709 : decode cL_law 2709 = .ok (.aload_n 3, 1) := by decide +kernel
theorem dL_law_2710 : decode cL_law 2710 = .ok (.invokestatic 319, 3) := by decide +kernel
theorem dL_law_2713 : decode cL_law 2713 = .ok (.istore 5, 2) := by decide +kernel
theorem dL_law_2715 : decode cL_law 2715 = .ok (.aload_n 2, 1) := by decide +kernel
theorem dL_law_2716 : decode cL_law 2716 = .ok (.aload_n 0, 1) := by decide +kernel
theorem dL_law_2717 : decode cL_law 2717 = .ok (.iload 4, 2) := by decide +kernel
theorem dL_law_2719 : decode cL_law 2719 = .ok (.iconst 1, 1) := by decide +kernel
theorem dL_law_2720 : decode cL_law 2720 = .ok (.iadd, 1) := by decide +kernel
theorem dL_law_2721 : decode cL_law 2721 = .ok (.iaload, 1) := by decide +kernel
theorem dL_law_2722 : decode cL_law 2722 = .ok (.invokevirtual 321, 3) := by decide +kernel
theorem dL_law_2725 : decode cL_law 2725 = .ok (.istore 6, 2) := by decide +kernel
theorem dL_law_2727 : decode cL_law 2727 = .ok (.aload_n 2, 1) := by decide +kernel
theorem dL_law_2728 : decode cL_law 2728 = .ok (.invokevirtual 188, 3) := by decide +kernel
theorem dL_law_2731 : decode cL_law 2731 = .ok (.iload 5, 2) := by decide +kernel
theorem dL_law_2733 : decode cL_law 2733 = .ok (.if_icmp .eq 5, 3) := by decide +kernel
theorem dL_law_2736 : decode cL_law 2736 = .ok (.iconst 0, 1) := by decide +kernel
theorem dL_law_2737 : decode cL_law 2737 = .ok (.ireturn, 1) := by decide +kernel
theorem dL_law_2738 : decode cL_law 2738 = .ok (.iload 5, 2) := by decide +kernel
theorem dL_law_2740 : decode cL_law 2740 = .ok (.ifCond .ne 15, 3) := by decide +kernel
theorem dL_law_2743 : decode cL_law 2743 = .ok (.aload_n 3, 1) := by decide +kernel
theorem dL_law_2744 : decode cL_law 2744 = .ok (.iconst 0, 1) := by decide +kernel
theorem dL_law_2745 : decode cL_law 2745 = .ok (.laload, 1) := by decide +kernel
theorem dL_law_2746 : decode cL_law 2746 = .ok (.iload 6, 2) := by decide +kernel
theorem dL_law_2748 : decode cL_law 2748 = .ok (.i2l, 1) := by decide +kernel
theorem dL_law_2749 : decode cL_law 2749 = .ok (.lcmp, 1) := by decide +kernel
theorem dL_law_2750 : decode cL_law 2750 = .ok (.ifCond .eq 5, 3) := by decide +kernel
theorem dL_law_2753 : decode cL_law 2753 = .ok (.iconst 0, 1) := by decide +kernel
theorem dL_law_2754 : decode cL_law 2754 = .ok (.ireturn, 1) := by decide +kernel
theorem dL_law_2755 : decode cL_law 2755 = .ok (.goto 807, 3) := by decide +kernel
theorem dL_law_2758 : decode cL_law 2758 = .ok (.aload_n 1, 1) := by decide +kernel
theorem dL_law_2759 : decode cL_law 2759 = .ok (.aload_n 0, 1) := by decide +kernel
theorem dL_law_2760 : decode cL_law 2760 = .ok (.iload 4, 2) := by decide +kernel
theorem dL_law_2762 : decode cL_law 2762 = .ok (.iconst 1, 1) := by decide +kernel
theorem dL_law_2763 : decode cL_law 2763 = .ok (.iadd, 1) := by decide +kernel
theorem dL_law_2764 : decode cL_law 2764 = .ok (.iaload, 1) := by decide +kernel
theorem dL_law_2765 : decode cL_law 2765 = .ok (.aload_n 3, 1) := by decide +kernel
theorem dL_law_2766 : decode cL_law 2766 = .ok (.invokestatic 322, 3) := by decide +kernel
theorem dL_law_2769 : decode cL_law 2769 = .ok (.istore 5, 2) := by decide +kernel
theorem dL_law_2771 : decode cL_law 2771 = .ok (.aload_n 2, 1) := by decide +kernel
theorem dL_law_2772 : decode cL_law 2772 = .ok (.aload_n 0, 1) := by decide +kernel
theorem dL_law_2773 : decode cL_law 2773 = .ok (.iload 4, 2) := by decide +kernel
theorem dL_law_2775 : decode cL_law 2775 = .ok (.iconst 1, 1) := by decide +kernel
theorem dL_law_2776 : decode cL_law 2776 = .ok (.iadd, 1) := by decide +kernel
theorem dL_law_2777 : decode cL_law 2777 = .ok (.iaload, 1) := by decide +kernel
theorem dL_law_2778 : decode cL_law 2778 = .ok (.invokevirtual 324, 3) := by decide +kernel
theorem dL_law_2781 : decode cL_law 2781 = .ok (.istore 6, 2) := by decide +kernel
theorem dL_law_2783 : decode cL_law 2783 = .ok (.aload_n 2, 1) := by decide +kernel
theorem dL_law_2784 : decode cL_law 2784 = .ok (.invokevirtual 188, 3) := by decide +kernel
theorem dL_law_2787 : decode cL_law 2787 = .ok (.iload 5, 2) := by decide +kernel
theorem dL_law_2789 : decode cL_law 2789 = .ok (.if_icmp .eq 5, 3) := by decide +kernel
theorem dL_law_2792 : decode cL_law 2792 = .ok (.iconst 0, 1) := by decide +kernel
theorem dL_law_2793 : decode cL_law 2793 = .ok (.ireturn, 1) := by decide +kernel
theorem dL_law_2794 : decode cL_law 2794 = .ok (.iload 5, 2) := by decide +kernel
theorem dL_law_2796 : decode cL_law 2796 = .ok (.ifCond .ne 15, 3) := by decide +kernel
theorem dL_law_2799 : decode cL_law 2799 = .ok (.aload_n 3, 1) := by decide +kernel
theorem dL_law_2800 : decode cL_law 2800 = .ok (.iconst 0, 1) := by decide +kernel
theorem dL_law_2801 : decode cL_law 2801 = .ok (.laload, 1) := by decide +kernel
theorem dL_law_2802 : decode cL_law 2802 = .ok (.iload 6, 2) := by decide +kernel
theorem dL_law_2804 : decode cL_law 2804 = .ok (.i2l, 1) := by decide +kernel
theorem dL_law_2805 : decode cL_law 2805 = .ok (.lcmp, 1) := by decide +kernel
theorem dL_law_2806 : decode cL_law 2806 = .ok (.ifCond .eq 5, 3) := by decide +kernel
theorem dL_law_2809 : decode cL_law 2809 = .ok (.iconst 0, 1) := by decide +kernel
theorem dL_law_2810 : decode cL_law 2810 = .ok (.ireturn, 1) := by decide +kernel
theorem dL_law_2811 : decode cL_law 2811 = .ok (.goto 751, 3) := by decide +kernel
theorem dL_law_2814 : decode cL_law 2814 = .ok (.aload_n 1, 1) := by decide +kernel
theorem dL_law_2815 : decode cL_law 2815 = .ok (.aload_n 0, 1) := by decide +kernel
theorem dL_law_2816 : decode cL_law 2816 = .ok (.iload 4, 2) := by decide +kernel
theorem dL_law_2818 : decode cL_law 2818 = .ok (.iconst 1, 1) := by decide +kernel
theorem dL_law_2819 : decode cL_law 2819 = .ok (.iadd, 1) := by decide +kernel
theorem dL_law_2820 : decode cL_law 2820 = .ok (.iaload, 1) := by decide +kernel
theorem dL_law_2821 : decode cL_law 2821 = .ok (.aload_n 3, 1) := by decide +kernel
theorem dL_law_2822 : decode cL_law 2822 = .ok (.invokestatic 325, 3) := by decide +kernel
theorem dL_law_2825 : decode cL_law 2825 = .ok (.istore 5, 2) := by decide +kernel
theorem dL_law_2827 : decode cL_law 2827 = .ok (.aload_n 2, 1) := by decide +kernel
theorem dL_law_2828 : decode cL_law 2828 = .ok (.aload_n 0, 1) := by decide +kernel
theorem dL_law_2829 : decode cL_law 2829 = .ok (.iload 4, 2) := by decide +kernel
theorem dL_law_2831 : decode cL_law 2831 = .ok (.iconst 1, 1) := by decide +kernel
theorem dL_law_2832 : decode cL_law 2832 = .ok (.iadd, 1) := by decide +kernel
theorem dL_law_2833 : decode cL_law 2833 = .ok (.iaload, 1) := by decide +kernel
theorem dL_law_2834 : decode cL_law 2834 = .ok (.invokevirtual 327, 3) := by decide +kernel
theorem dL_law_2837 : decode cL_law 2837 = .ok (.istore 6, 2) := by decide +kernel
theorem dL_law_2839 : decode cL_law 2839 = .ok (.aload_n 2, 1) := by decide +kernel
theorem dL_law_2840 : decode cL_law 2840 = .ok (.invokevirtual 188, 3) := by decide +kernel
theorem dL_law_2843 : decode cL_law 2843 = .ok (.iload 5, 2) := by decide +kernel
theorem dL_law_2845 : decode cL_law 2845 = .ok (.if_icmp .eq 5, 3) := by decide +kernel
theorem dL_law_2848 : decode cL_law 2848 = .ok (.iconst 0, 1) := by decide +kernel
theorem dL_law_2849 : decode cL_law 2849 = .ok (.ireturn, 1) := by decide +kernel
theorem dL_law_2850 : decode cL_law 2850 = .ok (.iload 5, 2) := by decide +kernel
theorem dL_law_2852 : decode cL_law 2852 = .ok (.ifCond .ne 15, 3) := by decide +kernel
theorem dL_law_2855 : decode cL_law 2855 = .ok (.aload_n 3, 1) := by decide +kernel
theorem dL_law_2856 : decode cL_law 2856 = .ok (.iconst 0, 1) := by decide +kernel
theorem dL_law_2857 : decode cL_law 2857 = .ok (.laload, 1) := by decide +kernel
theorem dL_law_2858 : decode cL_law 2858 = .ok (.iload 6, 2) := by decide +kernel
theorem dL_law_2860 : decode cL_law 2860 = .ok (.i2l, 1) := by decide +kernel
theorem dL_law_2861 : decode cL_law 2861 = .ok (.lcmp, 1) := by decide +kernel
theorem dL_law_2862 : decode cL_law 2862 = .ok (.ifCond .eq 5, 3) := by decide +kernel
theorem dL_law_2865 : decode cL_law 2865 = .ok (.iconst 0, 1) := by decide +kernel
theorem dL_law_2866 : decode cL_law 2866 = .ok (.ireturn, 1) := by decide +kernel
theorem dL_law_2867 : decode cL_law 2867 = .ok (.goto 695, 3) := by decide +kernel
theorem dL_law_2870 : decode cL_law 2870 = .ok (.aload_n 1, 1) := by decide +kernel
theorem dL_law_2871 : decode cL_law 2871 = .ok (.aload_n 0, 1) := by decide +kernel
theorem dL_law_2872 : decode cL_law 2872 = .ok (.iload 4, 2) := by decide +kernel
theorem dL_law_2874 : decode cL_law 2874 = .ok (.iconst 1, 1) := by decide +kernel
theorem dL_law_2875 : decode cL_law 2875 = .ok (.iadd, 1) := by decide +kernel
theorem dL_law_2876 : decode cL_law 2876 = .ok (.iaload, 1) := by decide +kernel
theorem dL_law_2877 : decode cL_law 2877 = .ok (.aload_n 3, 1) := by decide +kernel
theorem dL_law_2878 : decode cL_law 2878 = .ok (.invokestatic 328, 3) := by decide +kernel
theorem dL_law_2881 : decode cL_law 2881 = .ok (.istore 5, 2) := by decide +kernel
theorem dL_law_2883 : decode cL_law 2883 = .ok (.aload_n 2, 1) := by decide +kernel
theorem dL_law_2884 : decode cL_law 2884 = .ok (.aload_n 0, 1) := by decide +kernel
theorem dL_law_2885 : decode cL_law 2885 = .ok (.iload 4, 2) := by decide +kernel
theorem dL_law_2887 : decode cL_law 2887 = .ok (.iconst 1, 1) := by decide +kernel
theorem dL_law_2888 : decode cL_law 2888 = .ok (.iadd, 1) := by decide +kernel
theorem dL_law_2889 : decode cL_law 2889 = .ok (.iaload, 1) := by decide +kernel
theorem dL_law_2890 : decode cL_law 2890 = .ok (.invokevirtual 330, 3) := by decide +kernel
theorem dL_law_2893 : decode cL_law 2893 = .ok (.istore 6, 2) := by decide +kernel
theorem dL_law_2895 : decode cL_law 2895 = .ok (.aload_n 2, 1) := by decide +kernel
theorem dL_law_2896 : decode cL_law 2896 = .ok (.invokevirtual 188, 3) := by decide +kernel
theorem dL_law_2899 : decode cL_law 2899 = .ok (.iload 5, 2) := by decide +kernel
theorem dL_law_2901 : decode cL_law 2901 = .ok (.if_icmp .eq 5, 3) := by decide +kernel
theorem dL_law_2904 : decode cL_law 2904 = .ok (.iconst 0, 1) := by decide +kernel
theorem dL_law_2905 : decode cL_law 2905 = .ok (.ireturn, 1) := by decide +kernel
theorem dL_law_2906 : decode cL_law 2906 = .ok (.iload 5, 2) := by decide +kernel
theorem dL_law_2908 : decode cL_law 2908 = .ok (.ifCond .ne 15, 3) := by decide +kernel
theorem dL_law_2911 : decode cL_law 2911 = .ok (.aload_n 3, 1) := by decide +kernel
theorem dL_law_2912 : decode cL_law 2912 = .ok (.iconst 0, 1) := by decide +kernel
theorem dL_law_2913 : decode cL_law 2913 = .ok (.laload, 1) := by decide +kernel
theorem dL_law_2914 : decode cL_law 2914 = .ok (.iload 6, 2) := by decide +kernel
theorem dL_law_2916 : decode cL_law 2916 = .ok (.i2l, 1) := by decide +kernel
theorem dL_law_2917 : decode cL_law 2917 = .ok (.lcmp, 1) := by decide +kernel
theorem dL_law_2918 : decode cL_law 2918 = .ok (.ifCond .eq 5, 3) := by decide +kernel
theorem dL_law_2921 : decode cL_law 2921 = .ok (.iconst 0, 1) := by decide +kernel
theorem dL_law_2922 : decode cL_law 2922 = .ok (.ireturn, 1) := by decide +kernel
theorem dL_law_2923 : decode cL_law 2923 = .ok (.goto 639, 3) := by decide +kernel
theorem dL_law_2926 : decode cL_law 2926 = .ok (.aload_n 1, 1) := by decide +kernel
theorem dL_law_2927 : decode cL_law 2927 = .ok (.aload_n 0, 1) := by decide +kernel
theorem dL_law_2928 : decode cL_law 2928 = .ok (.iload 4, 2) := by decide +kernel
theorem dL_law_2930 : decode cL_law 2930 = .ok (.iconst 1, 1) := by decide +kernel
theorem dL_law_2931 : decode cL_law 2931 = .ok (.iadd, 1) := by decide +kernel
theorem dL_law_2932 : decode cL_law 2932 = .ok (.iaload, 1) := by decide +kernel
theorem dL_law_2933 : decode cL_law 2933 = .ok (.aload_n 0, 1) := by decide +kernel
theorem dL_law_2934 : decode cL_law 2934 = .ok (.iload 4, 2) := by decide +kernel
theorem dL_law_2936 : decode cL_law 2936 = .ok (.iconst 2, 1) := by decide +kernel
theorem dL_law_2937 : decode cL_law 2937 = .ok (.iadd, 1) := by decide +kernel
theorem dL_law_2938 : decode cL_law 2938 = .ok (.iaload, 1) := by decide +kernel
theorem dL_law_2939 : decode cL_law 2939 = .ok (.aload_n 0, 1) := by decide +kernel
theorem dL_law_2940 : decode cL_law 2940 = .ok (.iload 4, 2) := by decide +kernel
theorem dL_law_2942 : decode cL_law 2942 = .ok (.iconst 3, 1) := by decide +kernel
theorem dL_law_2943 : decode cL_law 2943 = .ok (.iadd, 1) := by decide +kernel
theorem dL_law_2944 : decode cL_law 2944 = .ok (.iaload, 1) := by decide +kernel
theorem dL_law_2945 : decode cL_law 2945 = .ok (.aload_n 3, 1) := by decide +kernel
theorem dL_law_2946 : decode cL_law 2946 = .ok (.invokestatic 331, 3) := by decide +kernel
theorem dL_law_2949 : decode cL_law 2949 = .ok (.istore 5, 2) := by decide +kernel
theorem dL_law_2951 : decode cL_law 2951 = .ok (.aload_n 2, 1) := by decide +kernel
theorem dL_law_2952 : decode cL_law 2952 = .ok (.aload_n 0, 1) := by decide +kernel
theorem dL_law_2953 : decode cL_law 2953 = .ok (.iload 4, 2) := by decide +kernel
theorem dL_law_2955 : decode cL_law 2955 = .ok (.iconst 1, 1) := by decide +kernel
theorem dL_law_2956 : decode cL_law 2956 = .ok (.iadd, 1) := by decide +kernel
theorem dL_law_2957 : decode cL_law 2957 = .ok (.iaload, 1) := by decide +kernel
theorem dL_law_2958 : decode cL_law 2958 = .ok (.aload_n 0, 1) := by decide +kernel
theorem dL_law_2959 : decode cL_law 2959 = .ok (.iload 4, 2) := by decide +kernel
theorem dL_law_2961 : decode cL_law 2961 = .ok (.iconst 2, 1) := by decide +kernel
theorem dL_law_2962 : decode cL_law 2962 = .ok (.iadd, 1) := by decide +kernel
theorem dL_law_2963 : decode cL_law 2963 = .ok (.iaload, 1) := by decide +kernel
theorem dL_law_2964 : decode cL_law 2964 = .ok (.aload_n 0, 1) := by decide +kernel
theorem dL_law_2965 : decode cL_law 2965 = .ok (.iload 4, 2) := by decide +kernel
theorem dL_law_2967 : decode cL_law 2967 = .ok (.iconst 3, 1) := by decide +kernel
theorem dL_law_2968 : decode cL_law 2968 = .ok (.iadd, 1) := by decide +kernel
theorem dL_law_2969 : decode cL_law 2969 = .ok (.iaload, 1) := by decide +kernel
theorem dL_law_2970 : decode cL_law 2970 = .ok (.invokevirtual 333, 3) := by decide +kernel
theorem dL_law_2973 : decode cL_law 2973 = .ok (.istore 6, 2) := by decide +kernel
theorem dL_law_2975 : decode cL_law 2975 = .ok (.aload_n 2, 1) := by decide +kernel
theorem dL_law_2976 : decode cL_law 2976 = .ok (.invokevirtual 188, 3) := by decide +kernel
theorem dL_law_2979 : decode cL_law 2979 = .ok (.iload 5, 2) := by decide +kernel
theorem dL_law_2981 : decode cL_law 2981 = .ok (.if_icmp .eq 5, 3) := by decide +kernel
theorem dL_law_2984 : decode cL_law 2984 = .ok (.iconst 0, 1) := by decide +kernel
theorem dL_law_2985 : decode cL_law 2985 = .ok (.ireturn, 1) := by decide +kernel
theorem dL_law_2986 : decode cL_law 2986 = .ok (.iload 5, 2) := by decide +kernel
theorem dL_law_2988 : decode cL_law 2988 = .ok (.ifCond .ne 15, 3) := by decide +kernel
theorem dL_law_2991 : decode cL_law 2991 = .ok (.aload_n 3, 1) := by decide +kernel
theorem dL_law_2992 : decode cL_law 2992 = .ok (.iconst 0, 1) := by decide +kernel
theorem dL_law_2993 : decode cL_law 2993 = .ok (.laload, 1) := by decide +kernel
theorem dL_law_2994 : decode cL_law 2994 = .ok (.iload 6, 2) := by decide +kernel
theorem dL_law_2996 : decode cL_law 2996 = .ok (.i2l, 1) := by decide +kernel
theorem dL_law_2997 : decode cL_law 2997 = .ok (.lcmp, 1) := by decide +kernel
theorem dL_law_2998 : decode cL_law 2998 = .ok (.ifCond .eq 5, 3) := by decide +kernel
theorem dL_law_3001 : decode cL_law 3001 = .ok (.iconst 0, 1) := by decide +kernel
theorem dL_law_3002 : decode cL_law 3002 = .ok (.ireturn, 1) := by decide +kernel
theorem dL_law_3003 : decode cL_law 3003 = .ok (.goto 559, 3) := by decide +kernel
theorem dL_law_3006 : decode cL_law 3006 = .ok (.aload_n 1, 1) := by decide +kernel
theorem dL_law_3007 : decode cL_law 3007 = .ok (.aload_n 0, 1) := by decide +kernel
theorem dL_law_3008 : decode cL_law 3008 = .ok (.iload 4, 2) := by decide +kernel
theorem dL_law_3010 : decode cL_law 3010 = .ok (.iconst 1, 1) := by decide +kernel
theorem dL_law_3011 : decode cL_law 3011 = .ok (.iadd, 1) := by decide +kernel
theorem dL_law_3012 : decode cL_law 3012 = .ok (.iaload, 1) := by decide +kernel
theorem dL_law_3013 : decode cL_law 3013 = .ok (.aload_n 3, 1) := by decide +kernel
theorem dL_law_3014 : decode cL_law 3014 = .ok (.invokestatic 334, 3) := by decide +kernel
theorem dL_law_3017 : decode cL_law 3017 = .ok (.istore 5, 2) := by decide +kernel
theorem dL_law_3019 : decode cL_law 3019 = .ok (.aload_n 2, 1) := by decide +kernel
theorem dL_law_3020 : decode cL_law 3020 = .ok (.aload_n 0, 1) := by decide +kernel
theorem dL_law_3021 : decode cL_law 3021 = .ok (.iload 4, 2) := by decide +kernel
theorem dL_law_3023 : decode cL_law 3023 = .ok (.iconst 1, 1) := by decide +kernel
theorem dL_law_3024 : decode cL_law 3024 = .ok (.iadd, 1) := by decide +kernel
theorem dL_law_3025 : decode cL_law 3025 = .ok (.iaload, 1) := by decide +kernel
theorem dL_law_3026 : decode cL_law 3026 = .ok (.invokevirtual 336, 3) := by decide +kernel
theorem dL_law_3029 : decode cL_law 3029 = .ok (.istore 6, 2) := by decide +kernel
theorem dL_law_3031 : decode cL_law 3031 = .ok (.aload_n 2, 1) := by decide +kernel
theorem dL_law_3032 : decode cL_law 3032 = .ok (.invokevirtual 188, 3) := by decide +kernel
theorem dL_law_3035 : decode cL_law 3035 = .ok (.iload 5, 2) := by decide +kernel
theorem dL_law_3037 : decode cL_law 3037 = .ok (.if_icmp .eq 5, 3) := by decide +kernel
theorem dL_law_3040 : decode cL_law 3040 = .ok (.iconst 0, 1) := by decide +kernel
theorem dL_law_3041 : decode cL_law 3041 = .ok (.ireturn, 1) := by decide +kernel
theorem dL_law_3042 : decode cL_law 3042 = .ok (.iload 5, 2) := by decide +kernel
theorem dL_law_3044 : decode cL_law 3044 = .ok (.ifCond .ne 15, 3) := by decide +kernel
theorem dL_law_3047 : decode cL_law 3047 = .ok (.aload_n 3, 1) := by decide +kernel
theorem dL_law_3048 : decode cL_law 3048 = .ok (.iconst 0, 1) := by decide +kernel
theorem dL_law_3049 : decode cL_law 3049 = .ok (.laload, 1) := by decide +kernel
theorem dL_law_3050 : decode cL_law 3050 = .ok (.iload 6, 2) := by decide +kernel
theorem dL_law_3052 : decode cL_law 3052 = .ok (.i2l, 1) := by decide +kernel
theorem dL_law_3053 : decode cL_law 3053 = .ok (.lcmp, 1) := by decide +kernel
theorem dL_law_3054 : decode cL_law 3054 = .ok (.ifCond .eq 5, 3) := by decide +kernel
theorem dL_law_3057 : decode cL_law 3057 = .ok (.iconst 0, 1) := by decide +kernel
theorem dL_law_3058 : decode cL_law 3058 = .ok (.ireturn, 1) := by decide +kernel
theorem dL_law_3059 : decode cL_law 3059 = .ok (.goto 503, 3) := by decide +kernel
theorem dL_law_3062 : decode cL_law 3062 = .ok (.aload_n 1, 1) := by decide +kernel
theorem dL_law_3063 : decode cL_law 3063 = .ok (.aload_n 0, 1) := by decide +kernel
theorem dL_law_3064 : decode cL_law 3064 = .ok (.iload 4, 2) := by decide +kernel
theorem dL_law_3066 : decode cL_law 3066 = .ok (.iconst 1, 1) := by decide +kernel
theorem dL_law_3067 : decode cL_law 3067 = .ok (.iadd, 1) := by decide +kernel
theorem dL_law_3068 : decode cL_law 3068 = .ok (.iaload, 1) := by decide +kernel
theorem dL_law_3069 : decode cL_law 3069 = .ok (.aload_n 3, 1) := by decide +kernel
theorem dL_law_3070 : decode cL_law 3070 = .ok (.invokestatic 337, 3) := by decide +kernel
theorem dL_law_3073 : decode cL_law 3073 = .ok (.istore 5, 2) := by decide +kernel
theorem dL_law_3075 : decode cL_law 3075 = .ok (.aload_n 2, 1) := by decide +kernel
theorem dL_law_3076 : decode cL_law 3076 = .ok (.aload_n 0, 1) := by decide +kernel
theorem dL_law_3077 : decode cL_law 3077 = .ok (.iload 4, 2) := by decide +kernel
theorem dL_law_3079 : decode cL_law 3079 = .ok (.iconst 1, 1) := by decide +kernel
theorem dL_law_3080 : decode cL_law 3080 = .ok (.iadd, 1) := by decide +kernel
theorem dL_law_3081 : decode cL_law 3081 = .ok (.iaload, 1) := by decide +kernel
theorem dL_law_3082 : decode cL_law 3082 = .ok (.invokevirtual 339, 3) := by decide +kernel
theorem dL_law_3085 : decode cL_law 3085 = .ok (.istore 6, 2) := by decide +kernel
theorem dL_law_3087 : decode cL_law 3087 = .ok (.aload_n 2, 1) := by decide +kernel
theorem dL_law_3088 : decode cL_law 3088 = .ok (.invokevirtual 188, 3) := by decide +kernel
theorem dL_law_3091 : decode cL_law 3091 = .ok (.iload 5, 2) := by decide +kernel
theorem dL_law_3093 : decode cL_law 3093 = .ok (.if_icmp .eq 5, 3) := by decide +kernel
theorem dL_law_3096 : decode cL_law 3096 = .ok (.iconst 0, 1) := by decide +kernel
theorem dL_law_3097 : decode cL_law 3097 = .ok (.ireturn, 1) := by decide +kernel
theorem dL_law_3098 : decode cL_law 3098 = .ok (.iload 5, 2) := by decide +kernel
theorem dL_law_3100 : decode cL_law 3100 = .ok (.ifCond .ne 15, 3) := by decide +kernel
theorem dL_law_3103 : decode cL_law 3103 = .ok (.aload_n 3, 1) := by decide +kernel
theorem dL_law_3104 : decode cL_law 3104 = .ok (.iconst 0, 1) := by decide +kernel
theorem dL_law_3105 : decode cL_law 3105 = .ok (.laload, 1) := by decide +kernel
theorem dL_law_3106 : decode cL_law 3106 = .ok (.iload 6, 2) := by decide +kernel
theorem dL_law_3108 : decode cL_law 3108 = .ok (.i2l, 1) := by decide +kernel
theorem dL_law_3109 : decode cL_law 3109 = .ok (.lcmp, 1) := by decide +kernel
theorem dL_law_3110 : decode cL_law 3110 = .ok (.ifCond .eq 5, 3) := by decide +kernel
theorem dL_law_3113 : decode cL_law 3113 = .ok (.iconst 0, 1) := by decide +kernel
theorem dL_law_3114 : decode cL_law 3114 = .ok (.ireturn, 1) := by decide +kernel
theorem dL_law_3115 : decode cL_law 3115 = .ok (.goto 447, 3) := by decide +kernel
theorem dL_law_3118 : decode cL_law 3118 = .ok (.aload_n 1, 1) := by decide +kernel
theorem dL_law_3119 : decode cL_law 3119 = .ok (.aload_n 0, 1) := by decide +kernel
theorem dL_law_3120 : decode cL_law 3120 = .ok (.iload 4, 2) := by decide +kernel
theorem dL_law_3122 : decode cL_law 3122 = .ok (.iconst 1, 1) := by decide +kernel
theorem dL_law_3123 : decode cL_law 3123 = .ok (.iadd, 1) := by decide +kernel
theorem dL_law_3124 : decode cL_law 3124 = .ok (.iaload, 1) := by decide +kernel
theorem dL_law_3125 : decode cL_law 3125 = .ok (.aload_n 0, 1) := by decide +kernel
theorem dL_law_3126 : decode cL_law 3126 = .ok (.iload 4, 2) := by decide +kernel
theorem dL_law_3128 : decode cL_law 3128 = .ok (.iconst 2, 1) := by decide +kernel
theorem dL_law_3129 : decode cL_law 3129 = .ok (.iadd, 1) := by decide +kernel
theorem dL_law_3130 : decode cL_law 3130 = .ok (.iaload, 1) := by decide +kernel
theorem dL_law_3131 : decode cL_law 3131 = .ok (.aload_n 0, 1) := by decide +kernel
theorem dL_law_3132 : decode cL_law 3132 = .ok (.iload 4, 2) := by decide +kernel
theorem dL_law_3134 : decode cL_law 3134 = .ok (.iconst 3, 1) := by decide +kernel
theorem dL_law_3135 : decode cL_law 3135 = .ok (.iadd, 1) := by decide +kernel
theorem dL_law_3136 : decode cL_law 3136 = .ok (.iaload, 1) := by decide +kernel
theorem dL_law_3137 : decode cL_law 3137 = .ok (.aload_n 3, 1) := by decide +kernel
theorem dL_law_3138 : decode cL_law 3138 = .ok (.invokestatic 340, 3) := by decide +kernel
theorem dL_law_3141 : decode cL_law 3141 = .ok (.istore 5, 2) := by decide +kernel
theorem dL_law_3143 : decode cL_law 3143 = .ok (.aload_n 2, 1) := by decide +kernel
theorem dL_law_3144 : decode cL_law 3144 = .ok (.aload_n 0, 1) := by decide +kernel
theorem dL_law_3145 : decode cL_law 3145 = .ok (.iload 4, 2) := by decide +kernel
theorem dL_law_3147 : decode cL_law 3147 = .ok (.iconst 1, 1) := by decide +kernel
theorem dL_law_3148 : decode cL_law 3148 = .ok (.iadd, 1) := by decide +kernel
theorem dL_law_3149 : decode cL_law 3149 = .ok (.iaload, 1) := by decide +kernel
theorem dL_law_3150 : decode cL_law 3150 = .ok (.aload_n 0, 1) := by decide +kernel
theorem dL_law_3151 : decode cL_law 3151 = .ok (.iload 4, 2) := by decide +kernel
theorem dL_law_3153 : decode cL_law 3153 = .ok (.iconst 2, 1) := by decide +kernel
theorem dL_law_3154 : decode cL_law 3154 = .ok (.iadd, 1) := by decide +kernel
theorem dL_law_3155 : decode cL_law 3155 = .ok (.iaload, 1) := by decide +kernel
theorem dL_law_3156 : decode cL_law 3156 = .ok (.aload_n 0, 1) := by decide +kernel
theorem dL_law_3157 : decode cL_law 3157 = .ok (.iload 4, 2) := by decide +kernel
theorem dL_law_3159 : decode cL_law 3159 = .ok (.iconst 3, 1) := by decide +kernel
theorem dL_law_3160 : decode cL_law 3160 = .ok (.iadd, 1) := by decide +kernel
theorem dL_law_3161 : decode cL_law 3161 = .ok (.iaload, 1) := by decide +kernel
theorem dL_law_3162 : decode cL_law 3162 = .ok (.invokevirtual 342, 3) := by decide +kernel
theorem dL_law_3165 : decode cL_law 3165 = .ok (.istore 6, 2) := by decide +kernel
theorem dL_law_3167 : decode cL_law 3167 = .ok (.aload_n 2, 1) := by decide +kernel
theorem dL_law_3168 : decode cL_law 3168 = .ok (.invokevirtual 188, 3) := by decide +kernel
theorem dL_law_3171 : decode cL_law 3171 = .ok (.iload 5, 2) := by decide +kernel
theorem dL_law_3173 : decode cL_law 3173 = .ok (.if_icmp .eq 5, 3) := by decide +kernel
theorem dL_law_3176 : decode cL_law 3176 = .ok (.iconst 0, 1) := by decide +kernel
theorem dL_law_3177 : decode cL_law 3177 = .ok (.ireturn, 1) := by decide +kernel
theorem dL_law_3178 : decode cL_law 3178 = .ok (.iload 5, 2) := by decide +kernel
theorem dL_law_3180 : decode cL_law 3180 = .ok (.ifCond .ne 15, 3) := by decide +kernel
theorem dL_law_3183 : decode cL_law 3183 = .ok (.aload_n 3, 1) := by decide +kernel
theorem dL_law_3184 : decode cL_law 3184 = .ok (.iconst 0, 1) := by decide +kernel
theorem dL_law_3185 : decode cL_law 3185 = .ok (.laload, 1) := by decide +kernel
theorem dL_law_3186 : decode cL_law 3186 = .ok (.iload 6, 2) := by decide +kernel
theorem dL_law_3188 : decode cL_law 3188 = .ok (.i2l, 1) := by decide +kernel
theorem dL_law_3189 : decode cL_law 3189 = .ok (.lcmp, 1) := by decide +kernel
theorem dL_law_3190 : decode cL_law 3190 = .ok (.ifCond .eq 5, 3) := by decide +kernel
theorem dL_law_3193 : decode cL_law 3193 = .ok (.iconst 0, 1) := by decide +kernel
theorem dL_law_3194 : decode cL_law 3194 = .ok (.ireturn, 1) := by decide +kernel
theorem dL_law_3195 : decode cL_law 3195 = .ok (.goto 367, 3) := by decide +kernel
theorem dL_law_3198 : decode cL_law 3198 = .ok (.aload_n 1, 1) := by decide +kernel
theorem dL_law_3199 : decode cL_law 3199 = .ok (.aload_n 0, 1) := by decide +kernel
theorem dL_law_3200 : decode cL_law 3200 = .ok (.iload 4, 2) := by decide +kernel
theorem dL_law_3202 : decode cL_law 3202 = .ok (.iconst 1, 1) := by decide +kernel
theorem dL_law_3203 : decode cL_law 3203 = .ok (.iadd, 1) := by decide +kernel
theorem dL_law_3204 : decode cL_law 3204 = .ok (.iaload, 1) := by decide +kernel
theorem dL_law_3205 : decode cL_law 3205 = .ok (.aload_n 0, 1) := by decide +kernel
theorem dL_law_3206 : decode cL_law 3206 = .ok (.iload 4, 2) := by decide +kernel
theorem dL_law_3208 : decode cL_law 3208 = .ok (.iconst 2, 1) := by decide +kernel
theorem dL_law_3209 : decode cL_law 3209 = .ok (.iadd, 1) := by decide +kernel
theorem dL_law_3210 : decode cL_law 3210 = .ok (.iaload, 1) := by decide +kernel
theorem dL_law_3211 : decode cL_law 3211 = .ok (.ifCond .eq 7, 3) := by decide +kernel
theorem dL_law_3214 : decode cL_law 3214 = .ok (.iconst 1, 1) := by decide +kernel
theorem dL_law_3215 : decode cL_law 3215 = .ok (.goto 4, 3) := by decide +kernel
theorem dL_law_3218 : decode cL_law 3218 = .ok (.iconst 0, 1) := by decide +kernel
theorem dL_law_3219 : decode cL_law 3219 = .ok (.aload_n 3, 1) := by decide +kernel
theorem dL_law_3220 : decode cL_law 3220 = .ok (.invokestatic 343, 3) := by decide +kernel
theorem dL_law_3223 : decode cL_law 3223 = .ok (.istore 5, 2) := by decide +kernel
theorem dL_law_3225 : decode cL_law 3225 = .ok (.aload_n 2, 1) := by decide +kernel
theorem dL_law_3226 : decode cL_law 3226 = .ok (.aload_n 0, 1) := by decide +kernel
theorem dL_law_3227 : decode cL_law 3227 = .ok (.iload 4, 2) := by decide +kernel
theorem dL_law_3229 : decode cL_law 3229 = .ok (.iconst 1, 1) := by decide +kernel
theorem dL_law_3230 : decode cL_law 3230 = .ok (.iadd, 1) := by decide +kernel
theorem dL_law_3231 : decode cL_law 3231 = .ok (.iaload, 1) := by decide +kernel
theorem dL_law_3232 : decode cL_law 3232 = .ok (.aload_n 0, 1) := by decide +kernel
theorem dL_law_3233 : decode cL_law 3233 = .ok (.iload 4, 2) := by decide +kernel
theorem dL_law_3235 : decode cL_law 3235 = .ok (.iconst 2, 1) := by decide +kernel
theorem dL_law_3236 : decode cL_law 3236 = .ok (.iadd, 1) := by decide +kernel
theorem dL_law_3237 : decode cL_law 3237 = .ok (.iaload, 1) := by decide +kernel
theorem dL_law_3238 : decode cL_law 3238 = .ok (.ifCond .eq 7, 3) := by decide +kernel
theorem dL_law_3241 : decode cL_law 3241 = .ok (.iconst 1, 1) := by decide +kernel
theorem dL_law_3242 : decode cL_law 3242 = .ok (.goto 4, 3) := by decide +kernel
theorem dL_law_3245 : decode cL_law 3245 = .ok (.iconst 0, 1) := by decide +kernel
theorem dL_law_3246 : decode cL_law 3246 = .ok (.invokevirtual 346, 3) := by decide +kernel
theorem dL_law_3249 : decode cL_law 3249 = .ok (.istore 6, 2) := by decide +kernel
theorem dL_law_3251 : decode cL_law 3251 = .ok (.aload_n 2, 1) := by decide +kernel
theorem dL_law_3252 : decode cL_law 3252 = .ok (.invokevirtual 188, 3) := by decide +kernel
theorem dL_law_3255 : decode cL_law 3255 = .ok (.iload 5, 2) := by decide +kernel
theorem dL_law_3257 : decode cL_law 3257 = .ok (.if_icmp .eq 5, 3) := by decide +kernel
theorem dL_law_3260 : decode cL_law 3260 = .ok (.iconst 0, 1) := by decide +kernel
theorem dL_law_3261 : decode cL_law 3261 = .ok (.ireturn, 1) := by decide +kernel
theorem dL_law_3262 : decode cL_law 3262 = .ok (.iload 5, 2) := by decide +kernel
theorem dL_law_3264 : decode cL_law 3264 = .ok (.ifCond .ne 15, 3) := by decide +kernel
theorem dL_law_3267 : decode cL_law 3267 = .ok (.aload_n 3, 1) := by decide +kernel
theorem dL_law_3268 : decode cL_law 3268 = .ok (.iconst 0, 1) := by decide +kernel
theorem dL_law_3269 : decode cL_law 3269 = .ok (.laload, 1) := by decide +kernel
theorem dL_law_3270 : decode cL_law 3270 = .ok (.iload 6, 2) := by decide +kernel
theorem dL_law_3272 : decode cL_law 3272 = .ok (.i2l, 1) := by decide +kernel
theorem dL_law_3273 : decode cL_law 3273 = .ok (.lcmp, 1) := by decide +kernel
theorem dL_law_3274 : decode cL_law 3274 = .ok (.ifCond .eq 5, 3) := by decide +kernel
theorem dL_law_3277 : decode cL_law 3277 = .ok (.iconst 0, 1) := by decide +kernel
theorem dL_law_3278 : decode cL_law 3278 = .ok (.ireturn, 1) := by decide +kernel
theorem dL_law_3279 : decode cL_law 3279 = .ok (.goto 283, 3) := by decide +kernel
theorem dL_law_3282 : decode cL_law 3282 = .ok (.aload_n 1, 1) := by decide +kernel
theorem dL_law_3283 : decode cL_law 3283 = .ok (.aload_n 0, 1) := by decide +kernel
theorem dL_law_3284 : decode cL_law 3284 = .ok (.iload 4, 2) := by decide +kernel
theorem dL_law_3286 : decode cL_law 3286 = .ok (.iconst 1, 1) := by decide +kernel
theorem dL_law_3287 : decode cL_law 3287 = .ok (.iadd, 1) := by decide +kernel
theorem dL_law_3288 : decode cL_law 3288 = .ok (.iaload, 1) := by decide +kernel
theorem dL_law_3289 : decode cL_law 3289 = .ok (.aload_n 0, 1) := by decide +kernel
theorem dL_law_3290 : decode cL_law 3290 = .ok (.iload 4, 2) := by decide +kernel
theorem dL_law_3292 : decode cL_law 3292 = .ok (.iconst 2, 1) := by decide +kernel
theorem dL_law_3293 : decode cL_law 3293 = .ok (.iadd, 1) := by decide +kernel
theorem dL_law_3294 : decode cL_law 3294 = .ok (.iaload, 1) := by decide +kernel
theorem dL_law_3295 : decode cL_law 3295 = .ok (.ifCond .eq 7, 3) := by decide +kernel
theorem dL_law_3298 : decode cL_law 3298 = .ok (.iconst 1, 1) := by decide +kernel
theorem dL_law_3299 : decode cL_law 3299 = .ok (.goto 4, 3) := by decide +kernel
theorem dL_law_3302 : decode cL_law 3302 = .ok (.iconst 0, 1) := by decide +kernel
theorem dL_law_3303 : decode cL_law 3303 = .ok (.aload_n 3, 1) := by decide +kernel
theorem dL_law_3304 : decode cL_law 3304 = .ok (.invokestatic 347, 3) := by decide +kernel
theorem dL_law_3307 : decode cL_law 3307 = .ok (.istore 5, 2) := by decide +kernel
theorem dL_law_3309 : decode cL_law 3309 = .ok (.aload_n 2, 1) := by decide +kernel
theorem dL_law_3310 : decode cL_law 3310 = .ok (.aload_n 0, 1) := by decide +kernel
theorem dL_law_3311 : decode cL_law 3311 = .ok (.iload 4, 2) := by decide +kernel
theorem dL_law_3313 : decode cL_law 3313 = .ok (.iconst 1, 1) := by decide +kernel
theorem dL_law_3314 : decode cL_law 3314 = .ok (.iadd, 1) := by decide +kernel
theorem dL_law_3315 : decode cL_law 3315 = .ok (.iaload, 1) := by decide +kernel
theorem dL_law_3316 : decode cL_law 3316 = .ok (.aload_n 0, 1) := by decide +kernel
theorem dL_law_3317 : decode cL_law 3317 = .ok (.iload 4, 2) := by decide +kernel
theorem dL_law_3319 : decode cL_law 3319 = .ok (.iconst 2, 1) := by decide +kernel
theorem dL_law_3320 : decode cL_law 3320 = .ok (.iadd, 1) := by decide +kernel
theorem dL_law_3321 : decode cL_law 3321 = .ok (.iaload, 1) := by decide +kernel
theorem dL_law_3322 : decode cL_law 3322 = .ok (.ifCond .eq 7, 3) := by decide +kernel
theorem dL_law_3325 : decode cL_law 3325 = .ok (.iconst 1, 1) := by decide +kernel
theorem dL_law_3326 : decode cL_law 3326 = .ok (.goto 4, 3) := by decide +kernel
theorem dL_law_3329 : decode cL_law 3329 = .ok (.iconst 0, 1) := by decide +kernel
theorem dL_law_3330 : decode cL_law 3330 = .ok (.invokevirtual 349, 3) := by decide +kernel
theorem dL_law_3333 : decode cL_law 3333 = .ok (.istore 6, 2) := by decide +kernel
theorem dL_law_3335 : decode cL_law 3335 = .ok (.aload_n 2, 1) := by decide +kernel
theorem dL_law_3336 : decode cL_law 3336 = .ok (.invokevirtual 188, 3) := by decide +kernel
theorem dL_law_3339 : decode cL_law 3339 = .ok (.iload 5, 2) := by decide +kernel
theorem dL_law_3341 : decode cL_law 3341 = .ok (.if_icmp .eq 5, 3) := by decide +kernel
theorem dL_law_3344 : decode cL_law 3344 = .ok (.iconst 0, 1) := by decide +kernel
theorem dL_law_3345 : decode cL_law 3345 = .ok (.ireturn, 1) := by decide +kernel
theorem dL_law_3346 : decode cL_law 3346 = .ok (.iload 5, 2) := by decide +kernel
theorem dL_law_3348 : decode cL_law 3348 = .ok (.ifCond .ne 15, 3) := by decide +kernel
theorem dL_law_3351 : decode cL_law 3351 = .ok (.aload_n 3, 1) := by decide +kernel
theorem dL_law_3352 : decode cL_law 3352 = .ok (.iconst 0, 1) := by decide +kernel
theorem dL_law_3353 : decode cL_law 3353 = .ok (.laload, 1) := by decide +kernel
theorem dL_law_3354 : decode cL_law 3354 = .ok (.iload 6, 2) := by decide +kernel
theorem dL_law_3356 : decode cL_law 3356 = .ok (.i2l, 1) := by decide +kernel
theorem dL_law_3357 : decode cL_law 3357 = .ok (.lcmp, 1) := by decide +kernel
theorem dL_law_3358 : decode cL_law 3358 = .ok (.ifCond .eq 5, 3) := by decide +kernel
theorem dL_law_3361 : decode cL_law 3361 = .ok (.iconst 0, 1) := by decide +kernel
theorem dL_law_3362 : decode cL_law 3362 = .ok (.ireturn, 1) := by decide +kernel
theorem dL_law_3363 : decode cL_law 3363 = .ok (.goto 199, 3) := by decide +kernel
theorem dL_law_3366 : decode cL_law 3366 = .ok (.aload_n 1, 1) := by decide +kernel
theorem dL_law_3367 : decode cL_law 3367 = .ok (.aload_n 0, 1) := by decide +kernel
theorem dL_law_3368 : decode cL_law 3368 = .ok (.iload 4, 2) := by decide +kernel
theorem dL_law_3370 : decode cL_law 3370 = .ok (.iconst 1, 1) := by decide +kernel
theorem dL_law_3371 : decode cL_law 3371 = .ok (.iadd, 1) := by decide +kernel
theorem dL_law_3372 : decode cL_law 3372 = .ok (.iaload, 1) := by decide +kernel
theorem dL_law_3373 : decode cL_law 3373 = .ok (.aload_n 0, 1) := by decide +kernel
theorem dL_law_3374 : decode cL_law 3374 = .ok (.iload 4, 2) := by decide +kernel
theorem dL_law_3376 : decode cL_law 3376 = .ok (.iconst 2, 1) := by decide +kernel
theorem dL_law_3377 : decode cL_law 3377 = .ok (.iadd, 1) := by decide +kernel
theorem dL_law_3378 : decode cL_law 3378 = .ok (.iaload, 1) := by decide +kernel
theorem dL_law_3379 : decode cL_law 3379 = .ok (.aload_n 0, 1) := by decide +kernel
theorem dL_law_3380 : decode cL_law 3380 = .ok (.iload 4, 2) := by decide +kernel
theorem dL_law_3382 : decode cL_law 3382 = .ok (.iconst 3, 1) := by decide +kernel
theorem dL_law_3383 : decode cL_law 3383 = .ok (.iadd, 1) := by decide +kernel
theorem dL_law_3384 : decode cL_law 3384 = .ok (.iaload, 1) := by decide +kernel
theorem dL_law_3385 : decode cL_law 3385 = .ok (.aload_n 3, 1) := by decide +kernel
theorem dL_law_3386 : decode cL_law 3386 = .ok (.invokestatic 350, 3) := by decide +kernel
theorem dL_law_3389 : decode cL_law 3389 = .ok (.istore 5, 2) := by decide +kernel
theorem dL_law_3391 : decode cL_law 3391 = .ok (.aload_n 2, 1) := by decide +kernel
theorem dL_law_3392 : decode cL_law 3392 = .ok (.aload_n 0, 1) := by decide +kernel
theorem dL_law_3393 : decode cL_law 3393 = .ok (.iload 4, 2) := by decide +kernel
theorem dL_law_3395 : decode cL_law 3395 = .ok (.iconst 1, 1) := by decide +kernel
theorem dL_law_3396 : decode cL_law 3396 = .ok (.iadd, 1) := by decide +kernel
theorem dL_law_3397 : decode cL_law 3397 = .ok (.iaload, 1) := by decide +kernel
theorem dL_law_3398 : decode cL_law 3398 = .ok (.aload_n 0, 1) := by decide +kernel
theorem dL_law_3399 : decode cL_law 3399 = .ok (.iload 4, 2) := by decide +kernel
theorem dL_law_3401 : decode cL_law 3401 = .ok (.iconst 2, 1) := by decide +kernel
theorem dL_law_3402 : decode cL_law 3402 = .ok (.iadd, 1) := by decide +kernel
theorem dL_law_3403 : decode cL_law 3403 = .ok (.iaload, 1) := by decide +kernel
theorem dL_law_3404 : decode cL_law 3404 = .ok (.aload_n 0, 1) := by decide +kernel
theorem dL_law_3405 : decode cL_law 3405 = .ok (.iload 4, 2) := by decide +kernel
theorem dL_law_3407 : decode cL_law 3407 = .ok (.iconst 3, 1) := by decide +kernel
theorem dL_law_3408 : decode cL_law 3408 = .ok (.iadd, 1) := by decide +kernel
theorem dL_law_3409 : decode cL_law 3409 = .ok (.iaload, 1) := by decide +kernel
theorem dL_law_3410 : decode cL_law 3410 = .ok (.invokevirtual 352, 3) := by decide +kernel
theorem dL_law_3413 : decode cL_law 3413 = .ok (.istore 6, 2) := by decide +kernel
theorem dL_law_3415 : decode cL_law 3415 = .ok (.aload_n 2, 1) := by decide +kernel
theorem dL_law_3416 : decode cL_law 3416 = .ok (.invokevirtual 188, 3) := by decide +kernel
theorem dL_law_3419 : decode cL_law 3419 = .ok (.iload 5, 2) := by decide +kernel
theorem dL_law_3421 : decode cL_law 3421 = .ok (.if_icmp .eq 5, 3) := by decide +kernel
theorem dL_law_3424 : decode cL_law 3424 = .ok (.iconst 0, 1) := by decide +kernel
theorem dL_law_3425 : decode cL_law 3425 = .ok (.ireturn, 1) := by decide +kernel
theorem dL_law_3426 : decode cL_law 3426 = .ok (.iload 5, 2) := by decide +kernel
theorem dL_law_3428 : decode cL_law 3428 = .ok (.ifCond .ne 15, 3) := by decide +kernel
theorem dL_law_3431 : decode cL_law 3431 = .ok (.aload_n 3, 1) := by decide +kernel
theorem dL_law_3432 : decode cL_law 3432 = .ok (.iconst 0, 1) := by decide +kernel
theorem dL_law_3433 : decode cL_law 3433 = .ok (.laload, 1) := by decide +kernel
theorem dL_law_3434 : decode cL_law 3434 = .ok (.iload 6, 2) := by decide +kernel
theorem dL_law_3436 : decode cL_law 3436 = .ok (.i2l, 1) := by decide +kernel
theorem dL_law_3437 : decode cL_law 3437 = .ok (.lcmp, 1) := by decide +kernel
theorem dL_law_3438 : decode cL_law 3438 = .ok (.ifCond .eq 5, 3) := by decide +kernel
theorem dL_law_3441 : decode cL_law 3441 = .ok (.iconst 0, 1) := by decide +kernel
theorem dL_law_3442 : decode cL_law 3442 = .ok (.ireturn, 1) := by decide +kernel
theorem dL_law_3443 : decode cL_law 3443 = .ok (.goto 119, 3) := by decide +kernel
theorem dL_law_3446 : decode cL_law 3446 = .ok (.aload_n 1, 1) := by decide +kernel
theorem dL_law_3447 : decode cL_law 3447 = .ok (.aload_n 3, 1) := by decide +kernel
theorem dL_law_3448 : decode cL_law 3448 = .ok (.invokestatic 353, 3) := by decide +kernel
theorem dL_law_3451 : decode cL_law 3451 = .ok (.istore 5, 2) := by decide +kernel
theorem dL_law_3453 : decode cL_law 3453 = .ok (.aload_n 2, 1) := by decide +kernel
theorem dL_law_3454 : decode cL_law 3454 = .ok (.invokevirtual 355, 3) := by decide +kernel
theorem dL_law_3457 : decode cL_law 3457 = .ok (.istore 6, 2) := by decide +kernel
theorem dL_law_3459 : decode cL_law 3459 = .ok (.aload_n 2, 1) := by decide +kernel
theorem dL_law_3460 : decode cL_law 3460 = .ok (.invokevirtual 188, 3) := by decide +kernel
theorem dL_law_3463 : decode cL_law 3463 = .ok (.iload 5, 2) := by decide +kernel
theorem dL_law_3465 : decode cL_law 3465 = .ok (.if_icmp .eq 5, 3) := by decide +kernel
theorem dL_law_3468 : decode cL_law 3468 = .ok (.iconst 0, 1) := by decide +kernel
theorem dL_law_3469 : decode cL_law 3469 = .ok (.ireturn, 1) := by decide +kernel
theorem dL_law_3470 : decode cL_law 3470 = .ok (.iload 5, 2) := by decide +kernel
theorem dL_law_3472 : decode cL_law 3472 = .ok (.ifCond .ne 15, 3) := by decide +kernel
theorem dL_law_3475 : decode cL_law 3475 = .ok (.aload_n 3, 1) := by decide +kernel
theorem dL_law_3476 : decode cL_law 3476 = .ok (.iconst 0, 1) := by decide +kernel
theorem dL_law_3477 : decode cL_law 3477 = .ok (.laload, 1) := by decide +kernel
theorem dL_law_3478 : decode cL_law 3478 = .ok (.iload 6, 2) := by decide +kernel
theorem dL_law_3480 : decode cL_law 3480 = .ok (.i2l, 1) := by decide +kernel
theorem dL_law_3481 : decode cL_law 3481 = .ok (.lcmp, 1) := by decide +kernel
theorem dL_law_3482 : decode cL_law 3482 = .ok (.ifCond .eq 5, 3) := by decide +kernel
theorem dL_law_3485 : decode cL_law 3485 = .ok (.iconst 0, 1) := by decide +kernel
theorem dL_law_3486 : decode cL_law 3486 = .ok (.ireturn, 1) := by decide +kernel
theorem dL_law_3487 : decode cL_law 3487 = .ok (.goto 75, 3) := by decide +kernel
theorem dL_law_3490 : decode cL_law 3490 = .ok (.aload_n 1, 1) := by decide +kernel
theorem dL_law_3491 : decode cL_law 3491 = .ok (.aload_n 0, 1) := by decide +kernel
theorem dL_law_3492 : decode cL_law 3492 = .ok (.iload 4, 2) := by decide +kernel
theorem dL_law_3494 : decode cL_law 3494 = .ok (.iconst 1, 1) := by decide +kernel
theorem dL_law_3495 : decode cL_law 3495 = .ok (.iadd, 1) := by decide +kernel
theorem dL_law_3496 : decode cL_law 3496 = .ok (.iaload, 1) := by decide +kernel
theorem dL_law_3497 : decode cL_law 3497 = .ok (.invokestatic 356, 3) := by decide +kernel
theorem dL_law_3500 : decode cL_law 3500 = .ok (.istore 5, 2) := by decide +kernel
theorem dL_law_3502 : decode cL_law 3502 = .ok (.aload_n 2, 1) := by decide +kernel
theorem dL_law_3503 : decode cL_law 3503 = .ok (.aload_n 0, 1) := by decide +kernel
theorem dL_law_3504 : decode cL_law 3504 = .ok (.iload 4, 2) := by decide +kernel
theorem dL_law_3506 : decode cL_law 3506 = .ok (.iconst 1, 1) := by decide +kernel
theorem dL_law_3507 : decode cL_law 3507 = .ok (.iadd, 1) := by decide +kernel
theorem dL_law_3508 : decode cL_law 3508 = .ok (.iaload, 1) := by decide +kernel
theorem dL_law_3509 : decode cL_law 3509 = .ok (.invokevirtual 359, 3) := by decide +kernel
theorem dL_law_3512 : decode cL_law 3512 = .ok (.aload_n 2, 1) := by decide +kernel
theorem dL_law_3513 : decode cL_law 3513 = .ok (.invokevirtual 188, 3) := by decide +kernel
theorem dL_law_3516 : decode cL_law 3516 = .ok (.iload 5, 2) := by decide +kernel
theorem dL_law_3518 : decode cL_law 3518 = .ok (.if_icmp .eq 5, 3) := by decide +kernel
theorem dL_law_3521 : decode cL_law 3521 = .ok (.iconst 0, 1) := by decide +kernel
theorem dL_law_3522 : decode cL_law 3522 = .ok (.ireturn, 1) := by decide +kernel
theorem dL_law_3523 : decode cL_law 3523 = .ok (.goto 39, 3) := by decide +kernel
theorem dL_law_3526 : decode cL_law 3526 = .ok (.aload_n 1, 1) := by decide +kernel
theorem dL_law_3527 : decode cL_law 3527 = .ok (.aload_n 0, 1) := by decide +kernel
theorem dL_law_3528 : decode cL_law 3528 = .ok (.iload 4, 2) := by decide +kernel
theorem dL_law_3530 : decode cL_law 3530 = .ok (.iconst 1, 1) := by decide +kernel
theorem dL_law_3531 : decode cL_law 3531 = .ok (.iadd, 1) := by decide +kernel
theorem dL_law_3532 : decode cL_law 3532 = .ok (.iaload, 1) := by decide +kernel
theorem dL_law_3533 : decode cL_law 3533 = .ok (.invokestatic 360, 3) := by decide +kernel
theorem dL_law_3536 : decode cL_law 3536 = .ok (.istore 5, 2) := by decide +kernel
theorem dL_law_3538 : decode cL_law 3538 = .ok (.aload_n 2, 1) := by decide +kernel
theorem dL_law_3539 : decode cL_law 3539 = .ok (.aload_n 0, 1) := by decide +kernel
theorem dL_law_3540 : decode cL_law 3540 = .ok (.iload 4, 2) := by decide +kernel
theorem dL_law_3542 : decode cL_law 3542 = .ok (.iconst 1, 1) := by decide +kernel
theorem dL_law_3543 : decode cL_law 3543 = .ok (.iadd, 1) := by decide +kernel
theorem dL_law_3544 : decode cL_law 3544 = .ok (.iaload, 1) := by decide +kernel
theorem dL_law_3545 : decode cL_law 3545 = .ok (.invokevirtual 362, 3) := by decide +kernel
theorem dL_law_3548 : decode cL_law 3548 = .ok (.aload_n 2, 1) := by decide +kernel
theorem dL_law_3549 : decode cL_law 3549 = .ok (.invokevirtual 188, 3) := by decide +kernel
theorem dL_law_3552 : decode cL_law 3552 = .ok (.iload 5, 2) := by decide +kernel
theorem dL_law_3554 : decode cL_law 3554 = .ok (.if_icmp .eq 5, 3) := by decide +kernel
theorem dL_law_3557 : decode cL_law 3557 = .ok (.iconst 0, 1) := by decide +kernel
theorem dL_law_3558 : decode cL_law 3558 = .ok (.ireturn, 1) := by decide +kernel
theorem dL_law_3559 : decode cL_law 3559 = .ok (.goto 3, 3) := by decide +kernel
theorem dL_law_3562 : decode cL_law 3562 = .ok (.iinc 4 6, 3) := by decide +kernel
theorem dL_law_3565 : decode cL_law 3565 = .ok (.goto (-3542), 3) := by decide +kernel
theorem dL_law_3568 : decode cL_law 3568 = .ok (.iconst 1, 1) := by decide +kernel
theorem dL_law_3569 : decode cL_law 3569 = .ok (.ireturn, 1) := by decide +kernel
abbrev M_L_law : aM := (yL_law.cls, cL_law, 7, (some .boolean), [], yL_law.name == "<init>")
abbrev J_L_law (l : Launch) (E : aE) (n0 m0 : Nat) := GG (fun (v : Int32) => .inl (some (.int v))) l E M_L_law 13 356 n0 m0
theorem b_L_law {l : Launch} {E : aE} (hl : l.stackTraces = false) (n0 m0 : Nat) (h0 : aH) : J_L_law l E n0 m0 0 [(0, .ref (e_ca E))] [] h0 (m_L_law (e_cs E) h0) := by
  unfold m_L_law
  refine g_newo (pc := 0) (c := 11) (n := 9) cl11 tw29 tw30 tw1 dL_law_0 (fun x1 h1 => ?_)
  refine g_dup (pc := 3) rfl dL_law_3 ?_
  refine g_bRv (pc := 4) (c_I (p_X11_init hl x1 h1) y_X11_init tw31 dL_law_4 rfl (st := [.ref (e_z E + x1)]) rfl (Nat.le_of_ble_eq_true rfl) (Nat.le_of_ble_eq_true rfl) (Nat.le_of_ble_eq_true rfl)) (fun _ h2 => ?_)
  refine g_astore_n (pc := 7) (lv' := [(1, .ref (e_z E + x1)), (0, .ref (e_ca E))]) dL_law_7 (Nat.le_of_ble_eq_true rfl) rfl ?_
  refine g_newo (pc := 8) (c := 12) (n := 71) cl12 tw1541 tw1542 tw13 dL_law_8 (fun x2 h3 => ?_)
  refine g_dup (pc := 11) rfl dL_law_11 ?_
  refine g_bRv (pc := 12) (c_I (p_X12_init hl x2 h3) y_X12_init tw1543 dL_law_12 rfl (st := [.ref (e_z E + x2)]) rfl (Nat.le_of_ble_eq_true rfl) (Nat.le_of_ble_eq_true rfl) (Nat.le_of_ble_eq_true rfl)) (fun _ h4 => ?_)
  refine g_astore_n (pc := 15) (lv' := [(2, .ref (e_z E + x2)), (1, .ref (e_z E + x1)), (0, .ref (e_ca E))]) dL_law_15 (Nat.le_of_ble_eq_true rfl) rfl ?_
  refine g_iconst (pc := 16) dL_law_16 ci_1 ?_
  refine g_newa (pc := 17) (t := 3) (n := 1) (x := (1 : Int32)) at_3 tw1765 (by decide +kernel) (Nat.le_of_ble_eq_true rfl) dL_law_17 (fun x3 h5 => ?_)
  refine g_astore_n (pc := 19) (lv' := [(3, .ref (e_z E + x3)), (2, .ref (e_z E + x2)), (1, .ref (e_z E + x1)), (0, .ref (e_ca E))]) dL_law_19 (Nat.le_of_ble_eq_true rfl) rfl ?_
  refine g_iconst (pc := 20) dL_law_20 ci_0 ?_
  refine g_istore (pc := 21) (lv' := [(4, .int (0 : Int32)), (3, .ref (e_z E + x3)), (2, .ref (e_z E + x2)), (1, .ref (e_z E + x1)), (0, .ref (e_ca E))]) dL_law_21 (Nat.le_of_ble_eq_true rfl) rfl ?_
  refine g_join (fun k => ∀ (h6 : aH), J_L_law l E n0 m0 3568 [] [] h6 (k h6)) (fun h6 => ?_) (fun k3568 hk3568 => ?_)
  · refine g_iconst (pc := 3568) dL_law_3568 ci_1 ?_
    exact g_ret (pc := 3569) rfl (isRet_z (Or.inr rfl)) dL_law_3569 rfl
  refine g_join (fun k => ∀ (h7 : aH), J_L_law l E n0 m0 375 [] [] h7 (k h7)) (fun h7 => ?_) (fun k375 hk375 => ?_)
  · refine g_iconst (pc := 375) dL_law_375 ci_0 ?_
    exact g_ret (pc := 376) rfl (isRet_z (Or.inl rfl)) dL_law_376 rfl
  refine g_join (fun k => ∀ (h8 : aH), J_L_law l E n0 m0 358 [] [] h8 (k h8)) (fun h8 => ?_) (fun k358 hk358 => ?_)
  · refine g_iconst (pc := 358) dL_law_358 ci_0 ?_
    exact g_ret (pc := 359) rfl (isRet_z (Or.inl rfl)) dL_law_359 rfl
  refine g_join (fun k => ∀ (h9 : aH), J_L_law l E n0 m0 431 [] [] h9 (k h9)) (fun h9 => ?_) (fun k431 hk431 => ?_)
  · refine g_iconst (pc := 431) dL_law_431 ci_0 ?_
    exact g_ret (pc := 432) rfl (isRet_z (Or.inl rfl)) dL_law_432 rfl
  refine g_join (fun k => ∀ (h10 : aH), J_L_law l E n0 m0 414 [] [] h10 (k h10)) (fun h10 => ?_) (fun k414 hk414 => ?_)
  · refine g_iconst (pc := 414) dL_law_414 ci_0 ?_
    exact g_ret (pc := 415) rfl (isRet_z (Or.inl rfl)) dL_law_415 rfl
  refine g_join (fun k => ∀ (h11 : aH), J_L_law l E n0 m0 475 [] [] h11 (k h11)) (fun h11 => ?_) (fun k475 hk475 => ?_)
  · refine g_iconst (pc := 475) dL_law_475 ci_0 ?_
    exact g_ret (pc := 476) rfl (isRet_z (Or.inl rfl)) dL_law_476 rfl
  refine g_join (fun k => ∀ (h12 : aH), J_L_law l E n0 m0 458 [] [] h12 (k h12)) (fun h12 => ?_) (fun k458 hk458 => ?_)
  · refine g_iconst (pc := 458) dL_law_458 ci_0 ?_
    exact g_ret (pc := 459) rfl (isRet_z (Or.inl rfl)) dL_law_459 rfl
  refine g_join (fun k => ∀ (h13 : aH), J_L_law l E n0 m0 491 [] [] h13 (k h13)) (fun h13 => ?_) (fun k491 hk491 => ?_)
  · refine g_iconst (pc := 491) dL_law_491 ci_0 ?_
    exact g_ret (pc := 492) rfl (isRet_z (Or.inl rfl)) dL_law_492 rfl
  refine g_join (fun k => ∀ (h14 : aH), J_L_law l E n0 m0 504 [] [] h14 (k h14)) (fun h14 => ?_) (fun k504 hk504 => ?_)
  · refine g_iconst (pc := 504) dL_law_504 ci_0 ?_
    exact g_ret (pc := 505) rfl (isRet_z (Or.inl rfl)) dL_law_505 rfl
  refine g_join (fun k => ∀ (h15 : aH), J_L_law l E n0 m0 557 [] [] h15 (k h15)) (fun h15 => ?_) (fun k557 hk557 => ?_)
  · refine g_iconst (pc := 557) dL_law_557 ci_0 ?_
    exact g_ret (pc := 558) rfl (isRet_z (Or.inl rfl)) dL_law_558 rfl
  refine g_join (fun k => ∀ (h16 : aH), J_L_law l E n0 m0 540 [] [] h16 (k h16)) (fun h16 => ?_) (fun k540 hk540 => ?_)
  · refine g_iconst (pc := 540) dL_law_540 ci_0 ?_
    exact g_ret (pc := 541) rfl (isRet_z (Or.inl rfl)) dL_law_541 rfl
  refine g_join (fun k => ∀ (h17 : aH), J_L_law l E n0 m0 613 [] [] h17 (k h17)) (fun h17 => ?_) (fun k613 hk613 => ?_)
  · refine g_iconst (pc := 613) dL_law_613 ci_0 ?_
    exact g_ret (pc := 614) rfl (isRet_z (Or.inl rfl)) dL_law_614 rfl
  refine g_join (fun k => ∀ (h18 : aH), J_L_law l E n0 m0 596 [] [] h18 (k h18)) (fun h18 => ?_) (fun k596 hk596 => ?_)
  · refine g_iconst (pc := 596) dL_law_596 ci_0 ?_
    exact g_ret (pc := 597) rfl (isRet_z (Or.inl rfl)) dL_law_597 rfl
  refine g_join (fun k => ∀ (h19 : aH), J_L_law l E n0 m0 629 [] [] h19 (k h19)) (fun h19 => ?_) (fun k629 hk629 => ?_)
  · refine g_iconst (pc := 629) dL_law_629 ci_0 ?_
    exact g_ret (pc := 630) rfl (isRet_z (Or.inl rfl)) dL_law_630 rfl
  refine g_join (fun k => ∀ (h20 : aH), J_L_law l E n0 m0 694 [] [] h20 (k h20)) (fun h20 => ?_) (fun k694 hk694 => ?_)
  · refine g_iconst (pc := 694) dL_law_694 ci_0 ?_
    exact g_ret (pc := 695) rfl (isRet_z (Or.inl rfl)) dL_law_695 rfl
  refine g_join (fun k => ∀ (h21 : aH), J_L_law l E n0 m0 677 [] [] h21 (k h21)) (fun h21 => ?_) (fun k677 hk677 => ?_)
  · refine g_iconst (pc := 677) dL_law_677 ci_0 ?_
    exact g_ret (pc := 678) rfl (isRet_z (Or.inl rfl)) dL_law_678 rfl
  refine g_join (fun k => ∀ (h22 : aH), J_L_law l E n0 m0 750 [] [] h22 (k h22)) (fun h22 => ?_) (fun k750 hk750 => ?_)
  · refine g_iconst (pc := 750) dL_law_750 ci_0 ?_
    exact g_ret (pc := 751) rfl (isRet_z (Or.inl rfl)) dL_law_751 rfl
  refine g_join (fun k => ∀ (h23 : aH), J_L_law l E n0 m0 733 [] [] h23 (k h23)) (fun h23 => ?_) (fun k733 hk733 => ?_)
  · refine g_iconst (pc := 733) dL_law_733 ci_0 ?_
    exact g_ret (pc := 734) rfl (isRet_z (Or.inl rfl)) dL_law_734 rfl
  refine g_join (fun k => ∀ (h24 : aH), J_L_law l E n0 m0 806 [] [] h24 (k h24)) (fun h24 => ?_) (fun k806 hk806 => ?_)
  · refine g_iconst (pc := 806) dL_law_806 ci_0 ?_
    exact g_ret (pc := 807) rfl (isRet_z (Or.inl rfl)) dL_law_807 rfl
  refine g_join (fun k => ∀ (h25 : aH), J_L_law l E n0 m0 789 [] [] h25 (k h25)) (fun h25 => ?_) (fun k789 hk789 => ?_)
  · refine g_iconst (pc := 789) dL_law_789 ci_0 ?_
    exact g_ret (pc := 790) rfl (isRet_z (Or.inl rfl)) dL_law_790 rfl
  refine g_join (fun k => ∀ (h26 : aH), J_L_law l E n0 m0 874 [] [] h26 (k h26)) (fun h26 => ?_) (fun k874 hk874 => ?_)
  · refine g_iconst (pc := 874) dL_law_874 ci_0 ?_
    exact g_ret (pc := 875) rfl (isRet_z (Or.inl rfl)) dL_law_875 rfl
  refine g_join (fun k => ∀ (h27 : aH), J_L_law l E n0 m0 857 [] [] h27 (k h27)) (fun h27 => ?_) (fun k857 hk857 => ?_)
  · refine g_iconst (pc := 857) dL_law_857 ci_0 ?_
    exact g_ret (pc := 858) rfl (isRet_z (Or.inl rfl)) dL_law_858 rfl
  refine g_join (fun k => ∀ (h28 : aH), J_L_law l E n0 m0 930 [] [] h28 (k h28)) (fun h28 => ?_) (fun k930 hk930 => ?_)
  · refine g_iconst (pc := 930) dL_law_930 ci_0 ?_
    exact g_ret (pc := 931) rfl (isRet_z (Or.inl rfl)) dL_law_931 rfl
  refine g_join (fun k => ∀ (h29 : aH), J_L_law l E n0 m0 913 [] [] h29 (k h29)) (fun h29 => ?_) (fun k913 hk913 => ?_)
  · refine g_iconst (pc := 913) dL_law_913 ci_0 ?_
    exact g_ret (pc := 914) rfl (isRet_z (Or.inl rfl)) dL_law_914 rfl
  refine g_join (fun k => ∀ (h30 : aH), J_L_law l E n0 m0 986 [] [] h30 (k h30)) (fun h30 => ?_) (fun k986 hk986 => ?_)
  · refine g_iconst (pc := 986) dL_law_986 ci_0 ?_
    exact g_ret (pc := 987) rfl (isRet_z (Or.inl rfl)) dL_law_987 rfl
  refine g_join (fun k => ∀ (h31 : aH), J_L_law l E n0 m0 969 [] [] h31 (k h31)) (fun h31 => ?_) (fun k969 hk969 => ?_)
  · refine g_iconst (pc := 969) dL_law_969 ci_0 ?_
    exact g_ret (pc := 970) rfl (isRet_z (Or.inl rfl)) dL_law_970 rfl
  refine g_join (fun k => ∀ (h32 : aH), J_L_law l E n0 m0 1042 [] [] h32 (k h32)) (fun h32 => ?_) (fun k1042 hk1042 => ?_)
  · refine g_iconst (pc := 1042) dL_law_1042 ci_0 ?_
    exact g_ret (pc := 1043) rfl (isRet_z (Or.inl rfl)) dL_law_1043 rfl
  refine g_join (fun k => ∀ (h33 : aH), J_L_law l E n0 m0 1025 [] [] h33 (k h33)) (fun h33 => ?_) (fun k1025 hk1025 => ?_)
  · refine g_iconst (pc := 1025) dL_law_1025 ci_0 ?_
    exact g_ret (pc := 1026) rfl (isRet_z (Or.inl rfl)) dL_law_1026 rfl
  refine g_join (fun k => ∀ (h34 : aH), J_L_law l E n0 m0 1110 [] [] h34 (k h34)) (fun h34 => ?_) (fun k1110 hk1110 => ?_)
  · refine g_iconst (pc := 1110) dL_law_1110 ci_0 ?_
    exact g_ret (pc := 1111) rfl (isRet_z (Or.inl rfl)) dL_law_1111 rfl
  refine g_join (fun k => ∀ (h35 : aH), J_L_law l E n0 m0 1093 [] [] h35 (k h35)) (fun h35 => ?_) (fun k1093 hk1093 => ?_)
  · refine g_iconst (pc := 1093) dL_law_1093 ci_0 ?_
    exact g_ret (pc := 1094) rfl (isRet_z (Or.inl rfl)) dL_law_1094 rfl
  refine g_join (fun k => ∀ (h36 : aH), J_L_law l E n0 m0 1178 [] [] h36 (k h36)) (fun h36 => ?_) (fun k1178 hk1178 => ?_)
  · refine g_iconst (pc := 1178) dL_law_1178 ci_0 ?_
    exact g_ret (pc := 1179) rfl (isRet_z (Or.inl rfl)) dL_law_1179 rfl
  refine g_join (fun k => ∀ (h37 : aH), J_L_law l E n0 m0 1161 [] [] h37 (k h37)) (fun h37 => ?_) (fun k1161 hk1161 => ?_)
  · refine g_iconst (pc := 1161) dL_law_1161 ci_0 ?_
    exact g_ret (pc := 1162) rfl (isRet_z (Or.inl rfl)) dL_law_1162 rfl
  refine g_join (fun k => ∀ (h38 : aH), J_L_law l E n0 m0 1246 [] [] h38 (k h38)) (fun h38 => ?_) (fun k1246 hk1246 => ?_)
  · refine g_iconst (pc := 1246) dL_law_1246 ci_0 ?_
    exact g_ret (pc := 1247) rfl (isRet_z (Or.inl rfl)) dL_law_1247 rfl
  refine g_join (fun k => ∀ (h39 : aH), J_L_law l E n0 m0 1229 [] [] h39 (k h39)) (fun h39 => ?_) (fun k1229 hk1229 => ?_)
  · refine g_iconst (pc := 1229) dL_law_1229 ci_0 ?_
    exact g_ret (pc := 1230) rfl (isRet_z (Or.inl rfl)) dL_law_1230 rfl
  refine g_join (fun k => ∀ (h40 : aH), J_L_law l E n0 m0 1302 [] [] h40 (k h40)) (fun h40 => ?_) (fun k1302 hk1302 => ?_)
  · refine g_iconst (pc := 1302) dL_law_1302 ci_0 ?_
    exact g_ret (pc := 1303) rfl (isRet_z (Or.inl rfl)) dL_law_1303 rfl
  refine g_join (fun k => ∀ (h41 : aH), J_L_law l E n0 m0 1285 [] [] h41 (k h41)) (fun h41 => ?_) (fun k1285 hk1285 => ?_)
  · refine g_iconst (pc := 1285) dL_law_1285 ci_0 ?_
    exact g_ret (pc := 1286) rfl (isRet_z (Or.inl rfl)) dL_law_1286 rfl
  refine g_join (fun k => ∀ (h42 : aH), J_L_law l E n0 m0 1358 [] [] h42 (k h42)) (fun h42 => ?_) (fun k1358 hk1358 => ?_)
  · refine g_iconst (pc := 1358) dL_law_1358 ci_0 ?_
    exact g_ret (pc := 1359) rfl (isRet_z (Or.inl rfl)) dL_law_1359 rfl
  refine g_join (fun k => ∀ (h43 : aH), J_L_law l E n0 m0 1341 [] [] h43 (k h43)) (fun h43 => ?_) (fun k1341 hk1341 => ?_)
  · refine g_iconst (pc := 1341) dL_law_1341 ci_0 ?_
    exact g_ret (pc := 1342) rfl (isRet_z (Or.inl rfl)) dL_law_1342 rfl
  refine g_join (fun k => ∀ (h44 : aH), J_L_law l E n0 m0 1426 [] [] h44 (k h44)) (fun h44 => ?_) (fun k1426 hk1426 => ?_)
  · refine g_iconst (pc := 1426) dL_law_1426 ci_0 ?_
    exact g_ret (pc := 1427) rfl (isRet_z (Or.inl rfl)) dL_law_1427 rfl
  refine g_join (fun k => ∀ (h45 : aH), J_L_law l E n0 m0 1409 [] [] h45 (k h45)) (fun h45 => ?_) (fun k1409 hk1409 => ?_)
  · refine g_iconst (pc := 1409) dL_law_1409 ci_0 ?_
    exact g_ret (pc := 1410) rfl (isRet_z (Or.inl rfl)) dL_law_1410 rfl
  refine g_join (fun k => ∀ (h46 : aH), J_L_law l E n0 m0 1494 [] [] h46 (k h46)) (fun h46 => ?_) (fun k1494 hk1494 => ?_)
  · refine g_iconst (pc := 1494) dL_law_1494 ci_0 ?_
    exact g_ret (pc := 1495) rfl (isRet_z (Or.inl rfl)) dL_law_1495 rfl
  refine g_join (fun k => ∀ (h47 : aH), J_L_law l E n0 m0 1477 [] [] h47 (k h47)) (fun h47 => ?_) (fun k1477 hk1477 => ?_)
  · refine g_iconst (pc := 1477) dL_law_1477 ci_0 ?_
    exact g_ret (pc := 1478) rfl (isRet_z (Or.inl rfl)) dL_law_1478 rfl
  refine g_join (fun k => ∀ (h48 : aH), J_L_law l E n0 m0 1562 [] [] h48 (k h48)) (fun h48 => ?_) (fun k1562 hk1562 => ?_)
  · refine g_iconst (pc := 1562) dL_law_1562 ci_0 ?_
    exact g_ret (pc := 1563) rfl (isRet_z (Or.inl rfl)) dL_law_1563 rfl
  refine g_join (fun k => ∀ (h49 : aH), J_L_law l E n0 m0 1545 [] [] h49 (k h49)) (fun h49 => ?_) (fun k1545 hk1545 => ?_)
  · refine g_iconst (pc := 1545) dL_law_1545 ci_0 ?_
    exact g_ret (pc := 1546) rfl (isRet_z (Or.inl rfl)) dL_law_1546 rfl
  refine g_join (fun k => ∀ (h50 : aH), J_L_law l E n0 m0 1642 [] [] h50 (k h50)) (fun h50 => ?_) (fun k1642 hk1642 => ?_)
  · refine g_iconst (pc := 1642) dL_law_1642 ci_0 ?_
    exact g_ret (pc := 1643) rfl (isRet_z (Or.inl rfl)) dL_law_1643 rfl
  refine g_join (fun k => ∀ (h51 : aH), J_L_law l E n0 m0 1625 [] [] h51 (k h51)) (fun h51 => ?_) (fun k1625 hk1625 => ?_)
  · refine g_iconst (pc := 1625) dL_law_1625 ci_0 ?_
    exact g_ret (pc := 1626) rfl (isRet_z (Or.inl rfl)) dL_law_1626 rfl
  refine g_join (fun k => ∀ (h52 : aH), J_L_law l E n0 m0 1710 [] [] h52 (k h52)) (fun h52 => ?_) (fun k1710 hk1710 => ?_)
  · refine g_iconst (pc := 1710) dL_law_1710 ci_0 ?_
    exact g_ret (pc := 1711) rfl (isRet_z (Or.inl rfl)) dL_law_1711 rfl
  refine g_join (fun k => ∀ (h53 : aH), J_L_law l E n0 m0 1693 [] [] h53 (k h53)) (fun h53 => ?_) (fun k1693 hk1693 => ?_)
  · refine g_iconst (pc := 1693) dL_law_1693 ci_0 ?_
    exact g_ret (pc := 1694) rfl (isRet_z (Or.inl rfl)) dL_law_1694 rfl
  refine g_join (fun k => ∀ (h54 : aH), J_L_law l E n0 m0 1766 [] [] h54 (k h54)) (fun h54 => ?_) (fun k1766 hk1766 => ?_)
  · refine g_iconst (pc := 1766) dL_law_1766 ci_0 ?_
    exact g_ret (pc := 1767) rfl (isRet_z (Or.inl rfl)) dL_law_1767 rfl
  refine g_join (fun k => ∀ (h55 : aH), J_L_law l E n0 m0 1749 [] [] h55 (k h55)) (fun h55 => ?_) (fun k1749 hk1749 => ?_)
  · refine g_iconst (pc := 1749) dL_law_1749 ci_0 ?_
    exact g_ret (pc := 1750) rfl (isRet_z (Or.inl rfl)) dL_law_1750 rfl
  refine g_join (fun k => ∀ (h56 : aH), J_L_law l E n0 m0 1822 [] [] h56 (k h56)) (fun h56 => ?_) (fun k1822 hk1822 => ?_)
  · refine g_iconst (pc := 1822) dL_law_1822 ci_0 ?_
    exact g_ret (pc := 1823) rfl (isRet_z (Or.inl rfl)) dL_law_1823 rfl
  refine g_join (fun k => ∀ (h57 : aH), J_L_law l E n0 m0 1805 [] [] h57 (k h57)) (fun h57 => ?_) (fun k1805 hk1805 => ?_)
  · refine g_iconst (pc := 1805) dL_law_1805 ci_0 ?_
    exact g_ret (pc := 1806) rfl (isRet_z (Or.inl rfl)) dL_law_1806 rfl
  refine g_join (fun k => ∀ (h58 : aH), J_L_law l E n0 m0 1885 [] [] h58 (k h58)) (fun h58 => ?_) (fun k1885 hk1885 => ?_)
  · refine g_iconst (pc := 1885) dL_law_1885 ci_0 ?_
    exact g_ret (pc := 1886) rfl (isRet_z (Or.inl rfl)) dL_law_1886 rfl
  refine g_join (fun k => ∀ (h59 : aH), J_L_law l E n0 m0 1861 [] [] h59 (k h59)) (fun h59 => ?_) (fun k1861 hk1861 => ?_)
  · refine g_iconst (pc := 1861) dL_law_1861 ci_0 ?_
    exact g_ret (pc := 1862) rfl (isRet_z (Or.inl rfl)) dL_law_1862 rfl
  refine g_join (fun k => ∀ (h60 : aH), J_L_law l E n0 m0 1941 [] [] h60 (k h60)) (fun h60 => ?_) (fun k1941 hk1941 => ?_)
  · refine g_iconst (pc := 1941) dL_law_1941 ci_0 ?_
    exact g_ret (pc := 1942) rfl (isRet_z (Or.inl rfl)) dL_law_1942 rfl
  refine g_join (fun k => ∀ (h61 : aH), J_L_law l E n0 m0 1924 [] [] h61 (k h61)) (fun h61 => ?_) (fun k1924 hk1924 => ?_)
  · refine g_iconst (pc := 1924) dL_law_1924 ci_0 ?_
    exact g_ret (pc := 1925) rfl (isRet_z (Or.inl rfl)) dL_law_1925 rfl
  refine g_join (fun k => ∀ (h62 : aH), J_L_law l E n0 m0 1997 [] [] h62 (k h62)) (fun h62 => ?_) (fun k1997 hk1997 => ?_)
  · refine g_iconst (pc := 1997) dL_law_1997 ci_0 ?_
    exact g_ret (pc := 1998) rfl (isRet_z (Or.inl rfl)) dL_law_1998 rfl
  refine g_join (fun k => ∀ (h63 : aH), J_L_law l E n0 m0 1980 [] [] h63 (k h63)) (fun h63 => ?_) (fun k1980 hk1980 => ?_)
  · refine g_iconst (pc := 1980) dL_law_1980 ci_0 ?_
    exact g_ret (pc := 1981) rfl (isRet_z (Or.inl rfl)) dL_law_1981 rfl
  refine g_join (fun k => ∀ (h64 : aH), J_L_law l E n0 m0 2065 [] [] h64 (k h64)) (fun h64 => ?_) (fun k2065 hk2065 => ?_)
  · refine g_iconst (pc := 2065) dL_law_2065 ci_0 ?_
    exact g_ret (pc := 2066) rfl (isRet_z (Or.inl rfl)) dL_law_2066 rfl
  refine g_join (fun k => ∀ (h65 : aH), J_L_law l E n0 m0 2048 [] [] h65 (k h65)) (fun h65 => ?_) (fun k2048 hk2048 => ?_)
  · refine g_iconst (pc := 2048) dL_law_2048 ci_0 ?_
    exact g_ret (pc := 2049) rfl (isRet_z (Or.inl rfl)) dL_law_2049 rfl
  refine g_join (fun k => ∀ (h66 : aH), J_L_law l E n0 m0 2133 [] [] h66 (k h66)) (fun h66 => ?_) (fun k2133 hk2133 => ?_)
  · refine g_iconst (pc := 2133) dL_law_2133 ci_0 ?_
    exact g_ret (pc := 2134) rfl (isRet_z (Or.inl rfl)) dL_law_2134 rfl
  refine g_join (fun k => ∀ (h67 : aH), J_L_law l E n0 m0 2116 [] [] h67 (k h67)) (fun h67 => ?_) (fun k2116 hk2116 => ?_)
  · refine g_iconst (pc := 2116) dL_law_2116 ci_0 ?_
    exact g_ret (pc := 2117) rfl (isRet_z (Or.inl rfl)) dL_law_2117 rfl
  refine g_join (fun k => ∀ (h68 : aH), J_L_law l E n0 m0 2213 [] [] h68 (k h68)) (fun h68 => ?_) (fun k2213 hk2213 => ?_)
  · refine g_iconst (pc := 2213) dL_law_2213 ci_0 ?_
    exact g_ret (pc := 2214) rfl (isRet_z (Or.inl rfl)) dL_law_2214 rfl
  refine g_join (fun k => ∀ (h69 : aH), J_L_law l E n0 m0 2196 [] [] h69 (k h69)) (fun h69 => ?_) (fun k2196 hk2196 => ?_)
  · refine g_iconst (pc := 2196) dL_law_2196 ci_0 ?_
    exact g_ret (pc := 2197) rfl (isRet_z (Or.inl rfl)) dL_law_2197 rfl
  refine g_join (fun k => ∀ (h70 : aH), J_L_law l E n0 m0 2229 [] [] h70 (k h70)) (fun h70 => ?_) (fun k2229 hk2229 => ?_)
  · refine g_iconst (pc := 2229) dL_law_2229 ci_0 ?_
    exact g_ret (pc := 2230) rfl (isRet_z (Or.inl rfl)) dL_law_2230 rfl
  refine g_join (fun k => ∀ (h71 : aH), J_L_law l E n0 m0 2294 [] [] h71 (k h71)) (fun h71 => ?_) (fun k2294 hk2294 => ?_)
  · refine g_iconst (pc := 2294) dL_law_2294 ci_0 ?_
    exact g_ret (pc := 2295) rfl (isRet_z (Or.inl rfl)) dL_law_2295 rfl
  refine g_join (fun k => ∀ (h72 : aH), J_L_law l E n0 m0 2277 [] [] h72 (k h72)) (fun h72 => ?_) (fun k2277 hk2277 => ?_)
  · refine g_iconst (pc := 2277) dL_law_2277 ci_0 ?_
    exact g_ret (pc := 2278) rfl (isRet_z (Or.inl rfl)) dL_law_2278 rfl
  refine g_join (fun k => ∀ (h73 : aH), J_L_law l E n0 m0 2362 [] [] h73 (k h73)) (fun h73 => ?_) (fun k2362 hk2362 => ?_)
  · refine g_iconst (pc := 2362) dL_law_2362 ci_0 ?_
    exact g_ret (pc := 2363) rfl (isRet_z (Or.inl rfl)) dL_law_2363 rfl
  refine g_join (fun k => ∀ (h74 : aH), J_L_law l E n0 m0 2345 [] [] h74 (k h74)) (fun h74 => ?_) (fun k2345 hk2345 => ?_)
  · refine g_iconst (pc := 2345) dL_law_2345 ci_0 ?_
    exact g_ret (pc := 2346) rfl (isRet_z (Or.inl rfl)) dL_law_2346 rfl
  refine g_join (fun k => ∀ (h75 : aH), J_L_law l E n0 m0 2430 [] [] h75 (k h75)) (fun h75 => ?_) (fun k2430 hk2430 => ?_)
  · refine g_iconst (pc := 2430) dL_law_2430 ci_0 ?_
    exact g_ret (pc := 2431) rfl (isRet_z (Or.inl rfl)) dL_law_2431 rfl
  refine g_join (fun k => ∀ (h76 : aH), J_L_law l E n0 m0 2413 [] [] h76 (k h76)) (fun h76 => ?_) (fun k2413 hk2413 => ?_)
  · refine g_iconst (pc := 2413) dL_law_2413 ci_0 ?_
    exact g_ret (pc := 2414) rfl (isRet_z (Or.inl rfl)) dL_law_2414 rfl
  refine g_join (fun k => ∀ (h77 : aH), J_L_law l E n0 m0 2510 [] [] h77 (k h77)) (fun h77 => ?_) (fun k2510 hk2510 => ?_)
  · refine g_iconst (pc := 2510) dL_law_2510 ci_0 ?_
    exact g_ret (pc := 2511) rfl (isRet_z (Or.inl rfl)) dL_law_2511 rfl
  refine g_join (fun k => ∀ (h78 : aH), J_L_law l E n0 m0 2493 [] [] h78 (k h78)) (fun h78 => ?_) (fun k2493 hk2493 => ?_)
  · refine g_iconst (pc := 2493) dL_law_2493 ci_0 ?_
    exact g_ret (pc := 2494) rfl (isRet_z (Or.inl rfl)) dL_law_2494 rfl
  refine g_join (fun k => ∀ (h79 : aH), J_L_law l E n0 m0 2578 [] [] h79 (k h79)) (fun h79 => ?_) (fun k2578 hk2578 => ?_)
  · refine g_iconst (pc := 2578) dL_law_2578 ci_0 ?_
    exact g_ret (pc := 2579) rfl (isRet_z (Or.inl rfl)) dL_law_2579 rfl
  refine g_join (fun k => ∀ (h80 : aH), J_L_law l E n0 m0 2561 [] [] h80 (k h80)) (fun h80 => ?_) (fun k2561 hk2561 => ?_)
  · refine g_iconst (pc := 2561) dL_law_2561 ci_0 ?_
    exact g_ret (pc := 2562) rfl (isRet_z (Or.inl rfl)) dL_law_2562 rfl
  refine g_join (fun k => ∀ (h81 : aH), J_L_law l E n0 m0 2641 [] [] h81 (k h81)) (fun h81 => ?_) (fun k2641 hk2641 => ?_)
  · refine g_iconst (pc := 2641) dL_law_2641 ci_0 ?_
    exact g_ret (pc := 2642) rfl (isRet_z (Or.inl rfl)) dL_law_2642 rfl
  refine g_join (fun k => ∀ (h82 : aH), J_L_law l E n0 m0 2617 [] [] h82 (k h82)) (fun h82 => ?_) (fun k2617 hk2617 => ?_)
  · refine g_iconst (pc := 2617) dL_law_2617 ci_0 ?_
    exact g_ret (pc := 2618) rfl (isRet_z (Or.inl rfl)) dL_law_2618 rfl
  refine g_join (fun k => ∀ (h83 : aH), J_L_law l E n0 m0 2697 [] [] h83 (k h83)) (fun h83 => ?_) (fun k2697 hk2697 => ?_)
  · refine g_iconst (pc := 2697) dL_law_2697 ci_0 ?_
    exact g_ret (pc := 2698) rfl (isRet_z (Or.inl rfl)) dL_law_2698 rfl
  refine g_join (fun k => ∀ (h84 : aH), J_L_law l E n0 m0 2680 [] [] h84 (k h84)) (fun h84 => ?_) (fun k2680 hk2680 => ?_)
  · refine g_iconst (pc := 2680) dL_law_2680 ci_0 ?_
    exact g_ret (pc := 2681) rfl (isRet_z (Or.inl rfl)) dL_law_2681 rfl
  refine g_join (fun k => ∀ (h85 : aH), J_L_law l E n0 m0 2753 [] [] h85 (k h85)) (fun h85 => ?_) (fun k2753 hk2753 => ?_)
  · refine g_iconst (pc := 2753) dL_law_2753 ci_0 ?_
    exact g_ret (pc := 2754) rfl (isRet_z (Or.inl rfl)) dL_law_2754 rfl
  refine g_join (fun k => ∀ (h86 : aH), J_L_law l E n0 m0 2736 [] [] h86 (k h86)) (fun h86 => ?_) (fun k2736 hk2736 => ?_)
  · refine g_iconst (pc := 2736) dL_law_2736 ci_0 ?_
    exact g_ret (pc := 2737) rfl (isRet_z (Or.inl rfl)) dL_law_2737 rfl
  refine g_join (fun k => ∀ (h87 : aH), J_L_law l E n0 m0 2809 [] [] h87 (k h87)) (fun h87 => ?_) (fun k2809 hk2809 => ?_)
  · refine g_iconst (pc := 2809) dL_law_2809 ci_0 ?_
    exact g_ret (pc := 2810) rfl (isRet_z (Or.inl rfl)) dL_law_2810 rfl
  refine g_join (fun k => ∀ (h88 : aH), J_L_law l E n0 m0 2792 [] [] h88 (k h88)) (fun h88 => ?_) (fun k2792 hk2792 => ?_)
  · refine g_iconst (pc := 2792) dL_law_2792 ci_0 ?_
    exact g_ret (pc := 2793) rfl (isRet_z (Or.inl rfl)) dL_law_2793 rfl
  refine g_join (fun k => ∀ (h89 : aH), J_L_law l E n0 m0 2865 [] [] h89 (k h89)) (fun h89 => ?_) (fun k2865 hk2865 => ?_)
  · refine g_iconst (pc := 2865) dL_law_2865 ci_0 ?_
    exact g_ret (pc := 2866) rfl (isRet_z (Or.inl rfl)) dL_law_2866 rfl
  refine g_join (fun k => ∀ (h90 : aH), J_L_law l E n0 m0 2848 [] [] h90 (k h90)) (fun h90 => ?_) (fun k2848 hk2848 => ?_)
  · refine g_iconst (pc := 2848) dL_law_2848 ci_0 ?_
    exact g_ret (pc := 2849) rfl (isRet_z (Or.inl rfl)) dL_law_2849 rfl
  refine g_join (fun k => ∀ (h91 : aH), J_L_law l E n0 m0 2921 [] [] h91 (k h91)) (fun h91 => ?_) (fun k2921 hk2921 => ?_)
  · refine g_iconst (pc := 2921) dL_law_2921 ci_0 ?_
    exact g_ret (pc := 2922) rfl (isRet_z (Or.inl rfl)) dL_law_2922 rfl
  refine g_join (fun k => ∀ (h92 : aH), J_L_law l E n0 m0 2904 [] [] h92 (k h92)) (fun h92 => ?_) (fun k2904 hk2904 => ?_)
  · refine g_iconst (pc := 2904) dL_law_2904 ci_0 ?_
    exact g_ret (pc := 2905) rfl (isRet_z (Or.inl rfl)) dL_law_2905 rfl
  refine g_join (fun k => ∀ (h93 : aH), J_L_law l E n0 m0 3001 [] [] h93 (k h93)) (fun h93 => ?_) (fun k3001 hk3001 => ?_)
  · refine g_iconst (pc := 3001) dL_law_3001 ci_0 ?_
    exact g_ret (pc := 3002) rfl (isRet_z (Or.inl rfl)) dL_law_3002 rfl
  refine g_join (fun k => ∀ (h94 : aH), J_L_law l E n0 m0 2984 [] [] h94 (k h94)) (fun h94 => ?_) (fun k2984 hk2984 => ?_)
  · refine g_iconst (pc := 2984) dL_law_2984 ci_0 ?_
    exact g_ret (pc := 2985) rfl (isRet_z (Or.inl rfl)) dL_law_2985 rfl
  refine g_join (fun k => ∀ (h95 : aH), J_L_law l E n0 m0 3057 [] [] h95 (k h95)) (fun h95 => ?_) (fun k3057 hk3057 => ?_)
  · refine g_iconst (pc := 3057) dL_law_3057 ci_0 ?_
    exact g_ret (pc := 3058) rfl (isRet_z (Or.inl rfl)) dL_law_3058 rfl
  refine g_join (fun k => ∀ (h96 : aH), J_L_law l E n0 m0 3040 [] [] h96 (k h96)) (fun h96 => ?_) (fun k3040 hk3040 => ?_)
  · refine g_iconst (pc := 3040) dL_law_3040 ci_0 ?_
    exact g_ret (pc := 3041) rfl (isRet_z (Or.inl rfl)) dL_law_3041 rfl
  refine g_join (fun k => ∀ (h97 : aH), J_L_law l E n0 m0 3113 [] [] h97 (k h97)) (fun h97 => ?_) (fun k3113 hk3113 => ?_)
  · refine g_iconst (pc := 3113) dL_law_3113 ci_0 ?_
    exact g_ret (pc := 3114) rfl (isRet_z (Or.inl rfl)) dL_law_3114 rfl
  refine g_join (fun k => ∀ (h98 : aH), J_L_law l E n0 m0 3096 [] [] h98 (k h98)) (fun h98 => ?_) (fun k3096 hk3096 => ?_)
  · refine g_iconst (pc := 3096) dL_law_3096 ci_0 ?_
    exact g_ret (pc := 3097) rfl (isRet_z (Or.inl rfl)) dL_law_3097 rfl
  refine g_join (fun k => ∀ (h99 : aH), J_L_law l E n0 m0 3193 [] [] h99 (k h99)) (fun h99 => ?_) (fun k3193 hk3193 => ?_)
  · refine g_iconst (pc := 3193) dL_law_3193 ci_0 ?_
    exact g_ret (pc := 3194) rfl (isRet_z (Or.inl rfl)) dL_law_3194 rfl
  refine g_join (fun k => ∀ (h100 : aH), J_L_law l E n0 m0 3176 [] [] h100 (k h100)) (fun h100 => ?_) (fun k3176 hk3176 => ?_)
  · refine g_iconst (pc := 3176) dL_law_3176 ci_0 ?_
    exact g_ret (pc := 3177) rfl (isRet_z (Or.inl rfl)) dL_law_3177 rfl
  refine g_join (fun k => ∀ (h101 : aH), J_L_law l E n0 m0 3277 [] [] h101 (k h101)) (fun h101 => ?_) (fun k3277 hk3277 => ?_)
  · refine g_iconst (pc := 3277) dL_law_3277 ci_0 ?_
    exact g_ret (pc := 3278) rfl (isRet_z (Or.inl rfl)) dL_law_3278 rfl
  refine g_join (fun k => ∀ (h102 : aH), J_L_law l E n0 m0 3260 [] [] h102 (k h102)) (fun h102 => ?_) (fun k3260 hk3260 => ?_)
  · refine g_iconst (pc := 3260) dL_law_3260 ci_0 ?_
    exact g_ret (pc := 3261) rfl (isRet_z (Or.inl rfl)) dL_law_3261 rfl
  refine g_join (fun k => ∀ (h103 : aH), J_L_law l E n0 m0 3361 [] [] h103 (k h103)) (fun h103 => ?_) (fun k3361 hk3361 => ?_)
  · refine g_iconst (pc := 3361) dL_law_3361 ci_0 ?_
    exact g_ret (pc := 3362) rfl (isRet_z (Or.inl rfl)) dL_law_3362 rfl
  refine g_join (fun k => ∀ (h104 : aH), J_L_law l E n0 m0 3344 [] [] h104 (k h104)) (fun h104 => ?_) (fun k3344 hk3344 => ?_)
  · refine g_iconst (pc := 3344) dL_law_3344 ci_0 ?_
    exact g_ret (pc := 3345) rfl (isRet_z (Or.inl rfl)) dL_law_3345 rfl
  refine g_join (fun k => ∀ (h105 : aH), J_L_law l E n0 m0 3441 [] [] h105 (k h105)) (fun h105 => ?_) (fun k3441 hk3441 => ?_)
  · refine g_iconst (pc := 3441) dL_law_3441 ci_0 ?_
    exact g_ret (pc := 3442) rfl (isRet_z (Or.inl rfl)) dL_law_3442 rfl
  refine g_join (fun k => ∀ (h106 : aH), J_L_law l E n0 m0 3424 [] [] h106 (k h106)) (fun h106 => ?_) (fun k3424 hk3424 => ?_)
  · refine g_iconst (pc := 3424) dL_law_3424 ci_0 ?_
    exact g_ret (pc := 3425) rfl (isRet_z (Or.inl rfl)) dL_law_3425 rfl
  refine g_join (fun k => ∀ (h107 : aH), J_L_law l E n0 m0 3485 [] [] h107 (k h107)) (fun h107 => ?_) (fun k3485 hk3485 => ?_)
  · refine g_iconst (pc := 3485) dL_law_3485 ci_0 ?_
    exact g_ret (pc := 3486) rfl (isRet_z (Or.inl rfl)) dL_law_3486 rfl
  refine g_join (fun k => ∀ (h108 : aH), J_L_law l E n0 m0 3468 [] [] h108 (k h108)) (fun h108 => ?_) (fun k3468 hk3468 => ?_)
  · refine g_iconst (pc := 3468) dL_law_3468 ci_0 ?_
    exact g_ret (pc := 3469) rfl (isRet_z (Or.inl rfl)) dL_law_3469 rfl
  refine g_join (fun k => ∀ (h109 : aH), J_L_law l E n0 m0 3521 [] [] h109 (k h109)) (fun h109 => ?_) (fun k3521 hk3521 => ?_)
  · refine g_iconst (pc := 3521) dL_law_3521 ci_0 ?_
    exact g_ret (pc := 3522) rfl (isRet_z (Or.inl rfl)) dL_law_3522 rfl
  refine g_join (fun k => ∀ (h110 : aH), J_L_law l E n0 m0 3557 [] [] h110 (k h110)) (fun h110 => ?_) (fun k3557 hk3557 => ?_)
  · refine g_iconst (pc := 3557) dL_law_3557 ci_0 ?_
    exact g_ret (pc := 3558) rfl (isRet_z (Or.inl rfl)) dL_law_3558 rfl
  refine g_lv [4, 3, 2, 1, 0] rfl ?_
  refine g_loop1 (F := (m_L_law_L23 (e_cs E) x1 x2 x3 k3568 k375 k358 k431 k414 k475 k458 k491 k504 k557 k540 k613 k596 k629 k694 k677 k750 k733 k806 k789 k874 k857 k930 k913 k986 k969 k1042 k1025 k1110 k1093 k1178 k1161 k1246 k1229 k1302 k1285 k1358 k1341 k1426 k1409 k1494 k1477 k1562 k1545 k1642 k1625 k1710 k1693 k1766 k1749 k1822 k1805 k1885 k1861 k1941 k1924 k1997 k1980 k2065 k2048 k2133 k2116 k2213 k2196 k2229 k2294 k2277 k2362 k2345 k2430 k2413 k2510 k2493 k2578 k2561 k2641 k2617 k2697 k2680 k2753 k2736 k2809 k2792 k2865 k2848 k2921 k2904 k3001 k2984 k3057 k3040 k3113 k3096 k3193 k3176 k3277 k3260 k3361 k3344 k3441 k3424 k3485 k3468 k3521 k3557)) (fun x4 => [(0, .ref (e_ca E)), (1, .ref (e_z E + x1)), (2, .ref (e_z E + x2)), (3, .ref (e_z E + x3)), (4, .int x4)]) (fun r23 hr23 x4 h111 => ?_) _ _ _
  unfold m_L_law_L23
  refine g_iload (pc := 23) dL_law_23 4 rfl ?_
  refine g_aload_n (pc := 25) dL_law_25 0 rfl ?_
  refine g_slen (pc := 26) dL_law_26 ?_
  refine g_bipush (pc := 27) dL_law_27 cb_6 ?_
  refine g_isub (pc := 29) dL_law_29 ?_
  refine g_icmpgt (pc := 30) (tgt := 3568) dL_law_30 rfl ?_ ?_
  · refine g_aload_n (pc := 33) dL_law_33 0 rfl ?_
    refine g_iload (pc := 34) dL_law_34 4 rfl ?_
    refine g_sld (pc := 36) dL_law_36 (fun x5 => ?_)
    refine g_bipush (pc := 37) dL_law_37 cb_63 ?_
    refine g_iand (pc := 39) dL_law_39 ?_
    refine g_topi (fun x6 => ?_)
    refine g_join (fun k => ∀ (h112 : aH), J_L_law l E n0 m0 3562 [(0, .ref (e_ca E)), (1, .ref (e_z E + x1)), (2, .ref (e_z E + x2)), (3, .ref (e_z E + x3)), (4, .int x4)] [] h112 (k h112)) (fun h112 => ?_) (fun k3562 hk3562 => ?_)
    · refine g_iincN (pc := 3562) dL_law_3562 4 rfl ci_6 (Nat.le_of_ble_eq_true rfl) (fun x7 => ?_)
      refine g_lvr (lv' := [(4, .int x7), (0, .ref (e_ca E)), (1, .ref (e_z E + x1)), (2, .ref (e_z E + x2)), (3, .ref (e_z E + x3))]) rfl ?_
      refine g_goto (pc := 3565) (tgt := 23) dL_law_3565 rfl ?_
      refine g_lv [1, 2, 3, 4, 0] rfl ?_
      exact hr23 x7 h112
    refine g_swI (fun e0 => ?_) (fun e0 => ?_)
    · refine g_swIn (pc := 40) (tgt := 276) (off := 236) dL_law_40 (by omega) (by omega) (by rw [e0]; rfl) rfl ?_
      refine g_aload_n (pc := 276) dL_law_276 1 rfl ?_
      refine g_aload_n (pc := 277) dL_law_277 0 rfl ?_
      refine g_iload (pc := 278) dL_law_278 4 rfl ?_
      refine g_iconst (pc := 280) dL_law_280 ci_1 ?_
      refine g_iadd (pc := 281) dL_law_281 ?_
      refine g_sld (pc := 282) dL_law_282 (fun x8 => ?_)
      refine g_aload_n (pc := 283) dL_law_283 0 rfl ?_
      refine g_iload (pc := 284) dL_law_284 4 rfl ?_
      refine g_iconst (pc := 286) dL_law_286 ci_2 ?_
      refine g_iadd (pc := 287) dL_law_287 ?_
      refine g_sld (pc := 288) dL_law_288 (fun x9 => ?_)
      refine g_aload_n (pc := 289) dL_law_289 0 rfl ?_
      refine g_iload (pc := 290) dL_law_290 4 rfl ?_
      refine g_iconst (pc := 292) dL_law_292 ci_3 ?_
      refine g_iadd (pc := 293) dL_law_293 ?_
      refine g_sld (pc := 294) dL_law_294 (fun x10 => ?_)
      refine g_aload_n (pc := 295) dL_law_295 0 rfl ?_
      refine g_iload (pc := 296) dL_law_296 4 rfl ?_
      refine g_iconst (pc := 298) dL_law_298 ci_4 ?_
      refine g_iadd (pc := 299) dL_law_299 ?_
      refine g_sld (pc := 300) dL_law_300 (fun x11 => ?_)
      refine g_aload_n (pc := 301) dL_law_301 0 rfl ?_
      refine g_iload (pc := 302) dL_law_302 4 rfl ?_
      refine g_iconst (pc := 304) dL_law_304 ci_5 ?_
      refine g_iadd (pc := 305) dL_law_305 ?_
      refine g_sld (pc := 306) dL_law_306 (fun x12 => ?_)
      refine g_aload_n (pc := 307) dL_law_307 3 rfl ?_
      refine g_bRi (pc := 308) (c_SX (p_L_append hl x1 x8 x9 x10 x11 x12 x3 h111) y_L_append tw534 dL_law_308 rfl (st := []) rfl (Nat.le_of_ble_eq_true rfl) (Nat.le_of_ble_eq_true rfl) (Nat.le_of_ble_eq_true rfl)) (fun x13 h113 => ?_)
      refine g_istore (pc := 311) (lv' := [(5, .int x13), (0, .ref (e_ca E)), (1, .ref (e_z E + x1)), (2, .ref (e_z E + x2)), (3, .ref (e_z E + x3)), (4, .int x4)]) dL_law_311 (Nat.le_of_ble_eq_true rfl) rfl ?_
      refine g_aload_n (pc := 313) dL_law_313 3 rfl ?_
      refine g_aload_n (pc := 314) dL_law_314 1 rfl ?_
      refine g_iload (pc := 315) dL_law_315 5 rfl ?_
      refine g_iconst (pc := 317) dL_law_317 ci_1 ?_
      refine g_iadd (pc := 318) dL_law_318 ?_
      refine g_sld (pc := 319) dL_law_319 (fun x14 => ?_)
      refine g_aload_n (pc := 320) dL_law_320 1 rfl ?_
      refine g_iload (pc := 321) dL_law_321 5 rfl ?_
      refine g_iconst (pc := 323) dL_law_323 ci_2 ?_
      refine g_iadd (pc := 324) dL_law_324 ?_
      refine g_sld (pc := 325) dL_law_325 (fun x15 => ?_)
      refine g_aload_n (pc := 326) dL_law_326 1 rfl ?_
      refine g_iload (pc := 327) dL_law_327 5 rfl ?_
      refine g_iconst (pc := 329) dL_law_329 ci_3 ?_
      refine g_iadd (pc := 330) dL_law_330 ?_
      refine g_sld (pc := 331) dL_law_331 (fun x16 => ?_)
      refine g_aload_n (pc := 332) dL_law_332 1 rfl ?_
      refine g_iload (pc := 333) dL_law_333 5 rfl ?_
      refine g_iconst (pc := 335) dL_law_335 ci_4 ?_
      refine g_iadd (pc := 336) dL_law_336 ?_
      refine g_sld (pc := 337) dL_law_337 (fun x17 => ?_)
      refine g_aload_n (pc := 338) dL_law_338 1 rfl ?_
      refine g_iload (pc := 339) dL_law_339 5 rfl ?_
      refine g_iconst (pc := 341) dL_law_341 ci_5 ?_
      refine g_iadd (pc := 342) dL_law_342 ?_
      refine g_sld (pc := 343) dL_law_343 (fun x18 => ?_)
      refine g_gS (fun hs => ?_)
      refine g_bRi (pc := 344) (c_V cl12 hs (p_X12_append hl x2 x14 x15 x16 x17 x18 h113) y_X12_append tw1770 dL_law_344 rfl (st := []) rfl (Nat.le_of_ble_eq_true rfl) (Nat.le_of_ble_eq_true rfl) (Nat.le_of_ble_eq_true rfl)) (fun x19 h114 => ?_)
      refine g_istore (pc := 347) (lv' := [(6, .int x19), (5, .int x13), (0, .ref (e_ca E)), (1, .ref (e_z E + x1)), (2, .ref (e_z E + x2)), (3, .ref (e_z E + x3)), (4, .int x4)]) dL_law_347 (Nat.le_of_ble_eq_true rfl) rfl ?_
      refine g_aload_n (pc := 349) dL_law_349 4 rfl ?_
      refine g_gS (fun hs => ?_)
      refine g_bRi (pc := 350) (c_V cl12 hs (p_X12_thrown hl x2 h114) y_X12_thrown tw1766 dL_law_350 rfl (st := []) rfl (Nat.le_of_ble_eq_true rfl) (Nat.le_of_ble_eq_true rfl) (Nat.le_of_ble_eq_true rfl)) (fun x20 h115 => ?_)
      refine g_iload (pc := 353) dL_law_353 1 rfl ?_
      refine g_icmpeq (pc := 355) (tgt := 360) dL_law_355 rfl ?_ ?_
      · refine g_iload (pc := 360) dL_law_360 1 rfl ?_
        refine g_join (fun k => ∀ (h116 : aH), J_L_law l E n0 m0 377 [(0, .ref (e_ca E)), (1, .ref (e_z E + x1)), (2, .ref (e_z E + x2)), (3, .ref (e_z E + x3)), (4, .int x4)] [] h116 (k h116)) (fun h116 => ?_) (fun k377 hk377 => ?_)
        · refine g_goto (pc := 377) (tgt := 3562) dL_law_377 rfl ?_
          exact hk3562 h116
        refine g_ifne (pc := 362) (tgt := 377) dL_law_362 rfl ?_ ?_
        · refine g_aload_n (pc := 365) dL_law_365 5 rfl ?_
          refine g_iconst (pc := 366) dL_law_366 ci_0 ?_
          refine g_lald (pc := 367) dL_law_367 (fun x21 => ?_)
          refine g_iload (pc := 368) dL_law_368 0 rfl ?_
          refine g_i2l (pc := 370) dL_law_370 ?_
          refine g_lcmp (pc := 371) dL_law_371 ?_
          refine g_ifeq (pc := 372) (tgt := 377) dL_law_372 rfl ?_ ?_
          · refine g_lv [2, 3, 4, 5, 6] rfl ?_
            exact hk377 h115
          · refine g_lv [] rfl ?_
            exact hk375 h115
        · refine g_lv [2, 3, 4, 5, 6] rfl ?_
          exact hk377 h115
      · refine g_lv [] rfl ?_
        exact hk358 h115
    refine g_swI (fun e1 => ?_) (fun e1 => ?_)
    · refine g_swIn (pc := 40) (tgt := 380) (off := 340) dL_law_40 (by omega) (by omega) (by rw [e1]; rfl) rfl ?_
      refine g_aload_n (pc := 380) dL_law_380 1 rfl ?_
      refine g_aload_n (pc := 381) dL_law_381 0 rfl ?_
      refine g_iload (pc := 382) dL_law_382 4 rfl ?_
      refine g_iconst (pc := 384) dL_law_384 ci_1 ?_
      refine g_iadd (pc := 385) dL_law_385 ?_
      refine g_sld (pc := 386) dL_law_386 (fun x22 => ?_)
      refine g_aload_n (pc := 387) dL_law_387 3 rfl ?_
      refine g_bRi (pc := 388) (c_SX (p_L_truncate hl x1 x22 x3 h111) y_L_truncate tw614 dL_law_388 rfl (st := []) rfl (Nat.le_of_ble_eq_true rfl) (Nat.le_of_ble_eq_true rfl) (Nat.le_of_ble_eq_true rfl)) (fun x23 h117 => ?_)
      refine g_istore (pc := 391) (lv' := [(5, .int x23), (0, .ref (e_ca E)), (1, .ref (e_z E + x1)), (2, .ref (e_z E + x2)), (3, .ref (e_z E + x3)), (4, .int x4)]) dL_law_391 (Nat.le_of_ble_eq_true rfl) rfl ?_
      refine g_aload_n (pc := 393) dL_law_393 3 rfl ?_
      refine g_aload_n (pc := 394) dL_law_394 1 rfl ?_
      refine g_iload (pc := 395) dL_law_395 5 rfl ?_
      refine g_iconst (pc := 397) dL_law_397 ci_1 ?_
      refine g_iadd (pc := 398) dL_law_398 ?_
      refine g_sld (pc := 399) dL_law_399 (fun x24 => ?_)
      refine g_gS (fun hs => ?_)
      refine g_bRi (pc := 400) (c_V cl12 hs (p_X12_truncate hl x2 x24 h117) y_X12_truncate tw1778 dL_law_400 rfl (st := []) rfl (Nat.le_of_ble_eq_true rfl) (Nat.le_of_ble_eq_true rfl) (Nat.le_of_ble_eq_true rfl)) (fun x25 h118 => ?_)
      refine g_istore (pc := 403) (lv' := [(6, .int x25), (5, .int x23), (0, .ref (e_ca E)), (1, .ref (e_z E + x1)), (2, .ref (e_z E + x2)), (3, .ref (e_z E + x3)), (4, .int x4)]) dL_law_403 (Nat.le_of_ble_eq_true rfl) rfl ?_
      refine g_aload_n (pc := 405) dL_law_405 4 rfl ?_
      refine g_gS (fun hs => ?_)
      refine g_bRi (pc := 406) (c_V cl12 hs (p_X12_thrown hl x2 h118) y_X12_thrown tw1766 dL_law_406 rfl (st := []) rfl (Nat.le_of_ble_eq_true rfl) (Nat.le_of_ble_eq_true rfl) (Nat.le_of_ble_eq_true rfl)) (fun x26 h119 => ?_)
      refine g_iload (pc := 409) dL_law_409 1 rfl ?_
      refine g_icmpeq (pc := 411) (tgt := 416) dL_law_411 rfl ?_ ?_
      · refine g_iload (pc := 416) dL_law_416 1 rfl ?_
        refine g_join (fun k => ∀ (h120 : aH), J_L_law l E n0 m0 433 [(0, .ref (e_ca E)), (1, .ref (e_z E + x1)), (2, .ref (e_z E + x2)), (3, .ref (e_z E + x3)), (4, .int x4)] [] h120 (k h120)) (fun h120 => ?_) (fun k433 hk433 => ?_)
        · refine g_goto (pc := 433) (tgt := 3562) dL_law_433 rfl ?_
          exact hk3562 h120
        refine g_ifne (pc := 418) (tgt := 433) dL_law_418 rfl ?_ ?_
        · refine g_aload_n (pc := 421) dL_law_421 5 rfl ?_
          refine g_iconst (pc := 422) dL_law_422 ci_0 ?_
          refine g_lald (pc := 423) dL_law_423 (fun x27 => ?_)
          refine g_iload (pc := 424) dL_law_424 0 rfl ?_
          refine g_i2l (pc := 426) dL_law_426 ?_
          refine g_lcmp (pc := 427) dL_law_427 ?_
          refine g_ifeq (pc := 428) (tgt := 433) dL_law_428 rfl ?_ ?_
          · refine g_lv [2, 3, 4, 5, 6] rfl ?_
            exact hk433 h119
          · refine g_lv [] rfl ?_
            exact hk431 h119
        · refine g_lv [2, 3, 4, 5, 6] rfl ?_
          exact hk433 h119
      · refine g_lv [] rfl ?_
        exact hk414 h119
    refine g_swI (fun e2 => ?_) (fun e2 => ?_)
    · refine g_swIn (pc := 40) (tgt := 436) (off := 396) dL_law_40 (by omega) (by omega) (by rw [e2]; rfl) rfl ?_
      refine g_aload_n (pc := 436) dL_law_436 1 rfl ?_
      refine g_aload_n (pc := 437) dL_law_437 3 rfl ?_
      refine g_bRi (pc := 438) (c_SX (p_L_load hl x1 x3 h111) y_L_load tw638 dL_law_438 rfl (st := []) rfl (Nat.le_of_ble_eq_true rfl) (Nat.le_of_ble_eq_true rfl) (Nat.le_of_ble_eq_true rfl)) (fun x28 h121 => ?_)
      refine g_istore (pc := 441) (lv' := [(5, .int x28), (0, .ref (e_ca E)), (1, .ref (e_z E + x1)), (2, .ref (e_z E + x2)), (3, .ref (e_z E + x3)), (4, .int x4)]) dL_law_441 (Nat.le_of_ble_eq_true rfl) rfl ?_
      refine g_aload_n (pc := 443) dL_law_443 3 rfl ?_
      refine g_gS (fun hs => ?_)
      refine g_bRi (pc := 444) (c_V cl12 hs (p_X12_load hl x2 h121) y_X12_load tw1785 dL_law_444 rfl (st := []) rfl (Nat.le_of_ble_eq_true rfl) (Nat.le_of_ble_eq_true rfl) (Nat.le_of_ble_eq_true rfl)) (fun x29 h122 => ?_)
      refine g_istore (pc := 447) (lv' := [(6, .int x29), (5, .int x28), (0, .ref (e_ca E)), (1, .ref (e_z E + x1)), (2, .ref (e_z E + x2)), (3, .ref (e_z E + x3)), (4, .int x4)]) dL_law_447 (Nat.le_of_ble_eq_true rfl) rfl ?_
      refine g_aload_n (pc := 449) dL_law_449 4 rfl ?_
      refine g_gS (fun hs => ?_)
      refine g_bRi (pc := 450) (c_V cl12 hs (p_X12_thrown hl x2 h122) y_X12_thrown tw1766 dL_law_450 rfl (st := []) rfl (Nat.le_of_ble_eq_true rfl) (Nat.le_of_ble_eq_true rfl) (Nat.le_of_ble_eq_true rfl)) (fun x30 h123 => ?_)
      refine g_iload (pc := 453) dL_law_453 1 rfl ?_
      refine g_icmpeq (pc := 455) (tgt := 460) dL_law_455 rfl ?_ ?_
      · refine g_iload (pc := 460) dL_law_460 1 rfl ?_
        refine g_join (fun k => ∀ (h124 : aH), J_L_law l E n0 m0 477 [(0, .ref (e_ca E)), (1, .ref (e_z E + x1)), (2, .ref (e_z E + x2)), (3, .ref (e_z E + x3)), (4, .int x4)] [] h124 (k h124)) (fun h124 => ?_) (fun k477 hk477 => ?_)
        · refine g_goto (pc := 477) (tgt := 3562) dL_law_477 rfl ?_
          exact hk3562 h124
        refine g_ifne (pc := 462) (tgt := 477) dL_law_462 rfl ?_ ?_
        · refine g_aload_n (pc := 465) dL_law_465 5 rfl ?_
          refine g_iconst (pc := 466) dL_law_466 ci_0 ?_
          refine g_lald (pc := 467) dL_law_467 (fun x31 => ?_)
          refine g_iload (pc := 468) dL_law_468 0 rfl ?_
          refine g_i2l (pc := 470) dL_law_470 ?_
          refine g_lcmp (pc := 471) dL_law_471 ?_
          refine g_ifeq (pc := 472) (tgt := 477) dL_law_472 rfl ?_ ?_
          · refine g_lv [2, 3, 4, 5, 6] rfl ?_
            exact hk477 h123
          · refine g_lv [] rfl ?_
            exact hk475 h123
        · refine g_lv [2, 3, 4, 5, 6] rfl ?_
          exact hk477 h123
      · refine g_lv [] rfl ?_
        exact hk458 h123
    refine g_swI (fun e3 => ?_) (fun e3 => ?_)
    · refine g_swIn (pc := 40) (tgt := 480) (off := 440) dL_law_40 (by omega) (by omega) (by rw [e3]; rfl) rfl ?_
      refine g_aload_n (pc := 480) dL_law_480 1 rfl ?_
      refine g_gS (fun hs => ?_)
      refine g_bRi (pc := 481) (c_V cl11 hs (p_X11_errorCode hl x1 h111) y_X11_errorCode tw518 dL_law_481 rfl (st := []) rfl (Nat.le_of_ble_eq_true rfl) (Nat.le_of_ble_eq_true rfl) (Nat.le_of_ble_eq_true rfl)) (fun x32 h125 => ?_)
      refine g_aload_n (pc := 484) dL_law_484 2 rfl ?_
      refine g_gS (fun hs => ?_)
      refine g_bRi (pc := 485) (c_V cl12 hs (p_X12_errorCode hl x2 h125) y_X12_errorCode tw1893 dL_law_485 rfl (st := [.int x32]) rfl (Nat.le_of_ble_eq_true rfl) (Nat.le_of_ble_eq_true rfl) (Nat.le_of_ble_eq_true rfl)) (fun x33 h126 => ?_)
      refine g_icmpeq (pc := 488) (tgt := 3562) dL_law_488 rfl ?_ ?_
      · exact hk3562 h126
      · refine g_lv [] rfl ?_
        exact hk491 h126
    refine g_swI (fun e4 => ?_) (fun e4 => ?_)
    · refine g_swIn (pc := 40) (tgt := 493) (off := 453) dL_law_40 (by omega) (by omega) (by rw [e4]; rfl) rfl ?_
      refine g_aload_n (pc := 493) dL_law_493 1 rfl ?_
      refine g_gS (fun hs => ?_)
      refine g_bRi (pc := 494) (c_V cl11 hs (p_X11_errorPosition hl x1 h111) y_X11_errorPosition tw522 dL_law_494 rfl (st := []) rfl (Nat.le_of_ble_eq_true rfl) (Nat.le_of_ble_eq_true rfl) (Nat.le_of_ble_eq_true rfl)) (fun x34 h127 => ?_)
      refine g_aload_n (pc := 497) dL_law_497 2 rfl ?_
      refine g_gS (fun hs => ?_)
      refine g_bRi (pc := 498) (c_V cl12 hs (p_X12_errorPosition hl x2 h127) y_X12_errorPosition tw1897 dL_law_498 rfl (st := [.int x34]) rfl (Nat.le_of_ble_eq_true rfl) (Nat.le_of_ble_eq_true rfl) (Nat.le_of_ble_eq_true rfl)) (fun x35 h128 => ?_)
      refine g_icmpeq (pc := 501) (tgt := 3562) dL_law_501 rfl ?_ ?_
      · exact hk3562 h128
      · refine g_lv [] rfl ?_
        exact hk504 h128
    refine g_swI (fun e5 => ?_) (fun e5 => ?_)
    · refine g_swIn (pc := 40) (tgt := 506) (off := 466) dL_law_40 (by omega) (by omega) (by rw [e5]; rfl) rfl ?_
      refine g_aload_n (pc := 506) dL_law_506 1 rfl ?_
      refine g_aload_n (pc := 507) dL_law_507 0 rfl ?_
      refine g_iload (pc := 508) dL_law_508 4 rfl ?_
      refine g_iconst (pc := 510) dL_law_510 ci_1 ?_
      refine g_iadd (pc := 511) dL_law_511 ?_
      refine g_sld (pc := 512) dL_law_512 (fun x36 => ?_)
      refine g_aload_n (pc := 513) dL_law_513 3 rfl ?_
      refine g_bRi (pc := 514) (c_SX (p_L_find hl x1 x36 x3 h111) y_L_find tw861 dL_law_514 rfl (st := []) rfl (Nat.le_of_ble_eq_true rfl) (Nat.le_of_ble_eq_true rfl) (Nat.le_of_ble_eq_true rfl)) (fun x37 h129 => ?_)
      refine g_istore (pc := 517) (lv' := [(5, .int x37), (0, .ref (e_ca E)), (1, .ref (e_z E + x1)), (2, .ref (e_z E + x2)), (3, .ref (e_z E + x3)), (4, .int x4)]) dL_law_517 (Nat.le_of_ble_eq_true rfl) rfl ?_
      refine g_aload_n (pc := 519) dL_law_519 3 rfl ?_
      refine g_aload_n (pc := 520) dL_law_520 1 rfl ?_
      refine g_iload (pc := 521) dL_law_521 5 rfl ?_
      refine g_iconst (pc := 523) dL_law_523 ci_1 ?_
      refine g_iadd (pc := 524) dL_law_524 ?_
      refine g_sld (pc := 525) dL_law_525 (fun x38 => ?_)
      refine g_gS (fun hs => ?_)
      refine g_bRi (pc := 526) (c_V cl12 hs (p_X12_find hl x2 x38 h129) y_X12_find tw1901 dL_law_526 rfl (st := []) rfl (Nat.le_of_ble_eq_true rfl) (Nat.le_of_ble_eq_true rfl) (Nat.le_of_ble_eq_true rfl)) (fun x39 h130 => ?_)
      refine g_istore (pc := 529) (lv' := [(6, .int x39), (5, .int x37), (0, .ref (e_ca E)), (1, .ref (e_z E + x1)), (2, .ref (e_z E + x2)), (3, .ref (e_z E + x3)), (4, .int x4)]) dL_law_529 (Nat.le_of_ble_eq_true rfl) rfl ?_
      refine g_aload_n (pc := 531) dL_law_531 4 rfl ?_
      refine g_gS (fun hs => ?_)
      refine g_bRi (pc := 532) (c_V cl12 hs (p_X12_thrown hl x2 h130) y_X12_thrown tw1766 dL_law_532 rfl (st := []) rfl (Nat.le_of_ble_eq_true rfl) (Nat.le_of_ble_eq_true rfl) (Nat.le_of_ble_eq_true rfl)) (fun x40 h131 => ?_)
      refine g_iload (pc := 535) dL_law_535 1 rfl ?_
      refine g_icmpeq (pc := 537) (tgt := 542) dL_law_537 rfl ?_ ?_
      · refine g_iload (pc := 542) dL_law_542 1 rfl ?_
        refine g_join (fun k => ∀ (h132 : aH), J_L_law l E n0 m0 559 [(0, .ref (e_ca E)), (1, .ref (e_z E + x1)), (2, .ref (e_z E + x2)), (3, .ref (e_z E + x3)), (4, .int x4)] [] h132 (k h132)) (fun h132 => ?_) (fun k559 hk559 => ?_)
        · refine g_goto (pc := 559) (tgt := 3562) dL_law_559 rfl ?_
          exact hk3562 h132
        refine g_ifne (pc := 544) (tgt := 559) dL_law_544 rfl ?_ ?_
        · refine g_aload_n (pc := 547) dL_law_547 5 rfl ?_
          refine g_iconst (pc := 548) dL_law_548 ci_0 ?_
          refine g_lald (pc := 549) dL_law_549 (fun x41 => ?_)
          refine g_iload (pc := 550) dL_law_550 0 rfl ?_
          refine g_i2l (pc := 552) dL_law_552 ?_
          refine g_lcmp (pc := 553) dL_law_553 ?_
          refine g_ifeq (pc := 554) (tgt := 559) dL_law_554 rfl ?_ ?_
          · refine g_lv [2, 3, 4, 5, 6] rfl ?_
            exact hk559 h131
          · refine g_lv [] rfl ?_
            exact hk557 h131
        · refine g_lv [2, 3, 4, 5, 6] rfl ?_
          exact hk559 h131
      · refine g_lv [] rfl ?_
        exact hk540 h131
    refine g_swI (fun e6 => ?_) (fun e6 => ?_)
    · refine g_swIn (pc := 40) (tgt := 562) (off := 522) dL_law_40 (by omega) (by omega) (by rw [e6]; rfl) rfl ?_
      refine g_aload_n (pc := 562) dL_law_562 1 rfl ?_
      refine g_aload_n (pc := 563) dL_law_563 0 rfl ?_
      refine g_iload (pc := 564) dL_law_564 4 rfl ?_
      refine g_iconst (pc := 566) dL_law_566 ci_1 ?_
      refine g_iadd (pc := 567) dL_law_567 ?_
      refine g_sld (pc := 568) dL_law_568 (fun x42 => ?_)
      refine g_aload_n (pc := 569) dL_law_569 3 rfl ?_
      refine g_bRi (pc := 570) (c_SX (p_L_count hl x1 x42 x3 h111) y_L_count tw892 dL_law_570 rfl (st := []) rfl (Nat.le_of_ble_eq_true rfl) (Nat.le_of_ble_eq_true rfl) (Nat.le_of_ble_eq_true rfl)) (fun x43 h133 => ?_)
      refine g_istore (pc := 573) (lv' := [(5, .int x43), (0, .ref (e_ca E)), (1, .ref (e_z E + x1)), (2, .ref (e_z E + x2)), (3, .ref (e_z E + x3)), (4, .int x4)]) dL_law_573 (Nat.le_of_ble_eq_true rfl) rfl ?_
      refine g_aload_n (pc := 575) dL_law_575 3 rfl ?_
      refine g_aload_n (pc := 576) dL_law_576 1 rfl ?_
      refine g_iload (pc := 577) dL_law_577 5 rfl ?_
      refine g_iconst (pc := 579) dL_law_579 ci_1 ?_
      refine g_iadd (pc := 580) dL_law_580 ?_
      refine g_sld (pc := 581) dL_law_581 (fun x44 => ?_)
      refine g_gS (fun hs => ?_)
      refine g_bRi (pc := 582) (c_V cl12 hs (p_X12_count hl x2 x44 h133) y_X12_count tw1906 dL_law_582 rfl (st := []) rfl (Nat.le_of_ble_eq_true rfl) (Nat.le_of_ble_eq_true rfl) (Nat.le_of_ble_eq_true rfl)) (fun x45 h134 => ?_)
      refine g_istore (pc := 585) (lv' := [(6, .int x45), (5, .int x43), (0, .ref (e_ca E)), (1, .ref (e_z E + x1)), (2, .ref (e_z E + x2)), (3, .ref (e_z E + x3)), (4, .int x4)]) dL_law_585 (Nat.le_of_ble_eq_true rfl) rfl ?_
      refine g_aload_n (pc := 587) dL_law_587 4 rfl ?_
      refine g_gS (fun hs => ?_)
      refine g_bRi (pc := 588) (c_V cl12 hs (p_X12_thrown hl x2 h134) y_X12_thrown tw1766 dL_law_588 rfl (st := []) rfl (Nat.le_of_ble_eq_true rfl) (Nat.le_of_ble_eq_true rfl) (Nat.le_of_ble_eq_true rfl)) (fun x46 h135 => ?_)
      refine g_iload (pc := 591) dL_law_591 1 rfl ?_
      refine g_icmpeq (pc := 593) (tgt := 598) dL_law_593 rfl ?_ ?_
      · refine g_iload (pc := 598) dL_law_598 1 rfl ?_
        refine g_join (fun k => ∀ (h136 : aH), J_L_law l E n0 m0 615 [(0, .ref (e_ca E)), (1, .ref (e_z E + x1)), (2, .ref (e_z E + x2)), (3, .ref (e_z E + x3)), (4, .int x4)] [] h136 (k h136)) (fun h136 => ?_) (fun k615 hk615 => ?_)
        · refine g_goto (pc := 615) (tgt := 3562) dL_law_615 rfl ?_
          exact hk3562 h136
        refine g_ifne (pc := 600) (tgt := 615) dL_law_600 rfl ?_ ?_
        · refine g_aload_n (pc := 603) dL_law_603 5 rfl ?_
          refine g_iconst (pc := 604) dL_law_604 ci_0 ?_
          refine g_lald (pc := 605) dL_law_605 (fun x47 => ?_)
          refine g_iload (pc := 606) dL_law_606 0 rfl ?_
          refine g_i2l (pc := 608) dL_law_608 ?_
          refine g_lcmp (pc := 609) dL_law_609 ?_
          refine g_ifeq (pc := 610) (tgt := 615) dL_law_610 rfl ?_ ?_
          · refine g_lv [2, 3, 4, 5, 6] rfl ?_
            exact hk615 h135
          · refine g_lv [] rfl ?_
            exact hk613 h135
        · refine g_lv [2, 3, 4, 5, 6] rfl ?_
          exact hk615 h135
      · refine g_lv [] rfl ?_
        exact hk596 h135
    refine g_swI (fun e7 => ?_) (fun e7 => ?_)
    · refine g_swIn (pc := 40) (tgt := 618) (off := 578) dL_law_40 (by omega) (by omega) (by rw [e7]; rfl) rfl ?_
      refine g_aload_n (pc := 618) dL_law_618 1 rfl ?_
      refine g_gS (fun hs => ?_)
      refine g_bRi (pc := 619) (c_V cl11 hs (p_X11_time hl x1 h111) y_X11_time tw526 dL_law_619 rfl (st := []) rfl (Nat.le_of_ble_eq_true rfl) (Nat.le_of_ble_eq_true rfl) (Nat.le_of_ble_eq_true rfl)) (fun x48 h137 => ?_)
      refine g_aload_n (pc := 622) dL_law_622 2 rfl ?_
      refine g_gS (fun hs => ?_)
      refine g_bRi (pc := 623) (c_V cl12 hs (p_X12_time hl x2 h137) y_X12_time tw1911 dL_law_623 rfl (st := [.int x48]) rfl (Nat.le_of_ble_eq_true rfl) (Nat.le_of_ble_eq_true rfl) (Nat.le_of_ble_eq_true rfl)) (fun x49 h138 => ?_)
      refine g_icmpeq (pc := 626) (tgt := 3562) dL_law_626 rfl ?_ ?_
      · exact hk3562 h138
      · refine g_lv [] rfl ?_
        exact hk629 h138
    refine g_swI (fun e8 => ?_) (fun e8 => ?_)
    · refine g_swIn (pc := 40) (tgt := 631) (off := 591) dL_law_40 (by omega) (by omega) (by rw [e8]; rfl) rfl ?_
      refine g_aload_n (pc := 631) dL_law_631 1 rfl ?_
      refine g_aload_n (pc := 632) dL_law_632 0 rfl ?_
      refine g_iload (pc := 633) dL_law_633 4 rfl ?_
      refine g_iconst (pc := 635) dL_law_635 ci_1 ?_
      refine g_iadd (pc := 636) dL_law_636 ?_
      refine g_sld (pc := 637) dL_law_637 (fun x50 => ?_)
      refine g_aload_n (pc := 638) dL_law_638 0 rfl ?_
      refine g_iload (pc := 639) dL_law_639 4 rfl ?_
      refine g_iconst (pc := 641) dL_law_641 ci_2 ?_
      refine g_iadd (pc := 642) dL_law_642 ?_
      refine g_sld (pc := 643) dL_law_643 (fun x51 => ?_)
      refine g_aload_n (pc := 644) dL_law_644 3 rfl ?_
      refine g_bRi (pc := 645) (c_SX (p_L_nightMinutes hl x1 x50 x51 x3 h111) y_L_nightMinutes tw900 dL_law_645 rfl (st := []) rfl (Nat.le_of_ble_eq_true rfl) (Nat.le_of_ble_eq_true rfl) (Nat.le_of_ble_eq_true rfl)) (fun x52 h139 => ?_)
      refine g_istore (pc := 648) (lv' := [(5, .int x52), (0, .ref (e_ca E)), (1, .ref (e_z E + x1)), (2, .ref (e_z E + x2)), (3, .ref (e_z E + x3)), (4, .int x4)]) dL_law_648 (Nat.le_of_ble_eq_true rfl) rfl ?_
      refine g_aload_n (pc := 650) dL_law_650 3 rfl ?_
      refine g_aload_n (pc := 651) dL_law_651 1 rfl ?_
      refine g_iload (pc := 652) dL_law_652 5 rfl ?_
      refine g_iconst (pc := 654) dL_law_654 ci_1 ?_
      refine g_iadd (pc := 655) dL_law_655 ?_
      refine g_sld (pc := 656) dL_law_656 (fun x53 => ?_)
      refine g_aload_n (pc := 657) dL_law_657 1 rfl ?_
      refine g_iload (pc := 658) dL_law_658 5 rfl ?_
      refine g_iconst (pc := 660) dL_law_660 ci_2 ?_
      refine g_iadd (pc := 661) dL_law_661 ?_
      refine g_sld (pc := 662) dL_law_662 (fun x54 => ?_)
      refine g_gS (fun hs => ?_)
      refine g_bRi (pc := 663) (c_V cl12 hs (p_X12_nightMinutes hl x2 x53 x54 h139) y_X12_nightMinutes tw1915 dL_law_663 rfl (st := []) rfl (Nat.le_of_ble_eq_true rfl) (Nat.le_of_ble_eq_true rfl) (Nat.le_of_ble_eq_true rfl)) (fun x55 h140 => ?_)
      refine g_istore (pc := 666) (lv' := [(6, .int x55), (5, .int x52), (0, .ref (e_ca E)), (1, .ref (e_z E + x1)), (2, .ref (e_z E + x2)), (3, .ref (e_z E + x3)), (4, .int x4)]) dL_law_666 (Nat.le_of_ble_eq_true rfl) rfl ?_
      refine g_aload_n (pc := 668) dL_law_668 4 rfl ?_
      refine g_gS (fun hs => ?_)
      refine g_bRi (pc := 669) (c_V cl12 hs (p_X12_thrown hl x2 h140) y_X12_thrown tw1766 dL_law_669 rfl (st := []) rfl (Nat.le_of_ble_eq_true rfl) (Nat.le_of_ble_eq_true rfl) (Nat.le_of_ble_eq_true rfl)) (fun x56 h141 => ?_)
      refine g_iload (pc := 672) dL_law_672 1 rfl ?_
      refine g_icmpeq (pc := 674) (tgt := 679) dL_law_674 rfl ?_ ?_
      · refine g_iload (pc := 679) dL_law_679 1 rfl ?_
        refine g_join (fun k => ∀ (h142 : aH), J_L_law l E n0 m0 696 [(0, .ref (e_ca E)), (1, .ref (e_z E + x1)), (2, .ref (e_z E + x2)), (3, .ref (e_z E + x3)), (4, .int x4)] [] h142 (k h142)) (fun h142 => ?_) (fun k696 hk696 => ?_)
        · refine g_goto (pc := 696) (tgt := 3562) dL_law_696 rfl ?_
          exact hk3562 h142
        refine g_ifne (pc := 681) (tgt := 696) dL_law_681 rfl ?_ ?_
        · refine g_aload_n (pc := 684) dL_law_684 5 rfl ?_
          refine g_iconst (pc := 685) dL_law_685 ci_0 ?_
          refine g_lald (pc := 686) dL_law_686 (fun x57 => ?_)
          refine g_iload (pc := 687) dL_law_687 0 rfl ?_
          refine g_i2l (pc := 689) dL_law_689 ?_
          refine g_lcmp (pc := 690) dL_law_690 ?_
          refine g_ifeq (pc := 691) (tgt := 696) dL_law_691 rfl ?_ ?_
          · refine g_lv [2, 3, 4, 5, 6] rfl ?_
            exact hk696 h141
          · refine g_lv [] rfl ?_
            exact hk694 h141
        · refine g_lv [2, 3, 4, 5, 6] rfl ?_
          exact hk696 h141
      · refine g_lv [] rfl ?_
        exact hk677 h141
    refine g_swI (fun e9 => ?_) (fun e9 => ?_)
    · refine g_swIn (pc := 40) (tgt := 699) (off := 659) dL_law_40 (by omega) (by omega) (by rw [e9]; rfl) rfl ?_
      refine g_aload_n (pc := 699) dL_law_699 1 rfl ?_
      refine g_aload_n (pc := 700) dL_law_700 0 rfl ?_
      refine g_iload (pc := 701) dL_law_701 4 rfl ?_
      refine g_iconst (pc := 703) dL_law_703 ci_1 ?_
      refine g_iadd (pc := 704) dL_law_704 ?_
      refine g_sld (pc := 705) dL_law_705 (fun x58 => ?_)
      refine g_aload_n (pc := 706) dL_law_706 3 rfl ?_
      refine g_bRi (pc := 707) (c_SX (p_L_outUntil hl x1 x58 x3 h111) y_L_outUntil tw918 dL_law_707 rfl (st := []) rfl (Nat.le_of_ble_eq_true rfl) (Nat.le_of_ble_eq_true rfl) (Nat.le_of_ble_eq_true rfl)) (fun x59 h143 => ?_)
      refine g_istore (pc := 710) (lv' := [(5, .int x59), (0, .ref (e_ca E)), (1, .ref (e_z E + x1)), (2, .ref (e_z E + x2)), (3, .ref (e_z E + x3)), (4, .int x4)]) dL_law_710 (Nat.le_of_ble_eq_true rfl) rfl ?_
      refine g_aload_n (pc := 712) dL_law_712 3 rfl ?_
      refine g_aload_n (pc := 713) dL_law_713 1 rfl ?_
      refine g_iload (pc := 714) dL_law_714 5 rfl ?_
      refine g_iconst (pc := 716) dL_law_716 ci_1 ?_
      refine g_iadd (pc := 717) dL_law_717 ?_
      refine g_sld (pc := 718) dL_law_718 (fun x60 => ?_)
      refine g_gS (fun hs => ?_)
      refine g_bRi (pc := 719) (c_V cl12 hs (p_X12_outUntil hl x2 x60 h143) y_X12_outUntil tw1923 dL_law_719 rfl (st := []) rfl (Nat.le_of_ble_eq_true rfl) (Nat.le_of_ble_eq_true rfl) (Nat.le_of_ble_eq_true rfl)) (fun x61 h144 => ?_)
      refine g_istore (pc := 722) (lv' := [(6, .int x61), (5, .int x59), (0, .ref (e_ca E)), (1, .ref (e_z E + x1)), (2, .ref (e_z E + x2)), (3, .ref (e_z E + x3)), (4, .int x4)]) dL_law_722 (Nat.le_of_ble_eq_true rfl) rfl ?_
      refine g_aload_n (pc := 724) dL_law_724 4 rfl ?_
      refine g_gS (fun hs => ?_)
      refine g_bRi (pc := 725) (c_V cl12 hs (p_X12_thrown hl x2 h144) y_X12_thrown tw1766 dL_law_725 rfl (st := []) rfl (Nat.le_of_ble_eq_true rfl) (Nat.le_of_ble_eq_true rfl) (Nat.le_of_ble_eq_true rfl)) (fun x62 h145 => ?_)
      refine g_iload (pc := 728) dL_law_728 1 rfl ?_
      refine g_icmpeq (pc := 730) (tgt := 735) dL_law_730 rfl ?_ ?_
      · refine g_iload (pc := 735) dL_law_735 1 rfl ?_
        refine g_join (fun k => ∀ (h146 : aH), J_L_law l E n0 m0 752 [(0, .ref (e_ca E)), (1, .ref (e_z E + x1)), (2, .ref (e_z E + x2)), (3, .ref (e_z E + x3)), (4, .int x4)] [] h146 (k h146)) (fun h146 => ?_) (fun k752 hk752 => ?_)
        · refine g_goto (pc := 752) (tgt := 3562) dL_law_752 rfl ?_
          exact hk3562 h146
        refine g_ifne (pc := 737) (tgt := 752) dL_law_737 rfl ?_ ?_
        · refine g_aload_n (pc := 740) dL_law_740 5 rfl ?_
          refine g_iconst (pc := 741) dL_law_741 ci_0 ?_
          refine g_lald (pc := 742) dL_law_742 (fun x63 => ?_)
          refine g_iload (pc := 743) dL_law_743 0 rfl ?_
          refine g_i2l (pc := 745) dL_law_745 ?_
          refine g_lcmp (pc := 746) dL_law_746 ?_
          refine g_ifeq (pc := 747) (tgt := 752) dL_law_747 rfl ?_ ?_
          · refine g_lv [2, 3, 4, 5, 6] rfl ?_
            exact hk752 h145
          · refine g_lv [] rfl ?_
            exact hk750 h145
        · refine g_lv [2, 3, 4, 5, 6] rfl ?_
          exact hk752 h145
      · refine g_lv [] rfl ?_
        exact hk733 h145
    refine g_swI (fun e10 => ?_) (fun e10 => ?_)
    · refine g_swIn (pc := 40) (tgt := 755) (off := 715) dL_law_40 (by omega) (by omega) (by rw [e10]; rfl) rfl ?_
      refine g_aload_n (pc := 755) dL_law_755 1 rfl ?_
      refine g_aload_n (pc := 756) dL_law_756 0 rfl ?_
      refine g_iload (pc := 757) dL_law_757 4 rfl ?_
      refine g_iconst (pc := 759) dL_law_759 ci_1 ?_
      refine g_iadd (pc := 760) dL_law_760 ?_
      refine g_sld (pc := 761) dL_law_761 (fun x64 => ?_)
      refine g_aload_n (pc := 762) dL_law_762 3 rfl ?_
      refine g_bRi (pc := 763) (c_SX (p_L_lostSleep hl x1 x64 x3 h111) y_L_lostSleep tw934 dL_law_763 rfl (st := []) rfl (Nat.le_of_ble_eq_true rfl) (Nat.le_of_ble_eq_true rfl) (Nat.le_of_ble_eq_true rfl)) (fun x65 h147 => ?_)
      refine g_istore (pc := 766) (lv' := [(5, .int x65), (0, .ref (e_ca E)), (1, .ref (e_z E + x1)), (2, .ref (e_z E + x2)), (3, .ref (e_z E + x3)), (4, .int x4)]) dL_law_766 (Nat.le_of_ble_eq_true rfl) rfl ?_
      refine g_aload_n (pc := 768) dL_law_768 3 rfl ?_
      refine g_aload_n (pc := 769) dL_law_769 1 rfl ?_
      refine g_iload (pc := 770) dL_law_770 5 rfl ?_
      refine g_iconst (pc := 772) dL_law_772 ci_1 ?_
      refine g_iadd (pc := 773) dL_law_773 ?_
      refine g_sld (pc := 774) dL_law_774 (fun x66 => ?_)
      refine g_gS (fun hs => ?_)
      refine g_bRi (pc := 775) (c_V cl12 hs (p_X12_lostSleep hl x2 x66 h147) y_X12_lostSleep tw1935 dL_law_775 rfl (st := []) rfl (Nat.le_of_ble_eq_true rfl) (Nat.le_of_ble_eq_true rfl) (Nat.le_of_ble_eq_true rfl)) (fun x67 h148 => ?_)
      refine g_istore (pc := 778) (lv' := [(6, .int x67), (5, .int x65), (0, .ref (e_ca E)), (1, .ref (e_z E + x1)), (2, .ref (e_z E + x2)), (3, .ref (e_z E + x3)), (4, .int x4)]) dL_law_778 (Nat.le_of_ble_eq_true rfl) rfl ?_
      refine g_aload_n (pc := 780) dL_law_780 4 rfl ?_
      refine g_gS (fun hs => ?_)
      refine g_bRi (pc := 781) (c_V cl12 hs (p_X12_thrown hl x2 h148) y_X12_thrown tw1766 dL_law_781 rfl (st := []) rfl (Nat.le_of_ble_eq_true rfl) (Nat.le_of_ble_eq_true rfl) (Nat.le_of_ble_eq_true rfl)) (fun x68 h149 => ?_)
      refine g_iload (pc := 784) dL_law_784 1 rfl ?_
      refine g_icmpeq (pc := 786) (tgt := 791) dL_law_786 rfl ?_ ?_
      · refine g_iload (pc := 791) dL_law_791 1 rfl ?_
        refine g_join (fun k => ∀ (h150 : aH), J_L_law l E n0 m0 808 [(0, .ref (e_ca E)), (1, .ref (e_z E + x1)), (2, .ref (e_z E + x2)), (3, .ref (e_z E + x3)), (4, .int x4)] [] h150 (k h150)) (fun h150 => ?_) (fun k808 hk808 => ?_)
        · refine g_goto (pc := 808) (tgt := 3562) dL_law_808 rfl ?_
          exact hk3562 h150
        refine g_ifne (pc := 793) (tgt := 808) dL_law_793 rfl ?_ ?_
        · refine g_aload_n (pc := 796) dL_law_796 5 rfl ?_
          refine g_iconst (pc := 797) dL_law_797 ci_0 ?_
          refine g_lald (pc := 798) dL_law_798 (fun x69 => ?_)
          refine g_iload (pc := 799) dL_law_799 0 rfl ?_
          refine g_i2l (pc := 801) dL_law_801 ?_
          refine g_lcmp (pc := 802) dL_law_802 ?_
          refine g_ifeq (pc := 803) (tgt := 808) dL_law_803 rfl ?_ ?_
          · refine g_lv [2, 3, 4, 5, 6] rfl ?_
            exact hk808 h149
          · refine g_lv [] rfl ?_
            exact hk806 h149
        · refine g_lv [2, 3, 4, 5, 6] rfl ?_
          exact hk808 h149
      · refine g_lv [] rfl ?_
        exact hk789 h149
    refine g_swI (fun e11 => ?_) (fun e11 => ?_)
    · refine g_swIn (pc := 40) (tgt := 811) (off := 771) dL_law_40 (by omega) (by omega) (by rw [e11]; rfl) rfl ?_
      refine g_aload_n (pc := 811) dL_law_811 1 rfl ?_
      refine g_aload_n (pc := 812) dL_law_812 0 rfl ?_
      refine g_iload (pc := 813) dL_law_813 4 rfl ?_
      refine g_iconst (pc := 815) dL_law_815 ci_1 ?_
      refine g_iadd (pc := 816) dL_law_816 ?_
      refine g_sld (pc := 817) dL_law_817 (fun x70 => ?_)
      refine g_aload_n (pc := 818) dL_law_818 0 rfl ?_
      refine g_iload (pc := 819) dL_law_819 4 rfl ?_
      refine g_iconst (pc := 821) dL_law_821 ci_2 ?_
      refine g_iadd (pc := 822) dL_law_822 ?_
      refine g_sld (pc := 823) dL_law_823 (fun x71 => ?_)
      refine g_aload_n (pc := 824) dL_law_824 3 rfl ?_
      refine g_bRi (pc := 825) (c_SX (p_L_lostSleepAfter hl x1 x70 x71 x3 h111) y_L_lostSleepAfter tw941 dL_law_825 rfl (st := []) rfl (Nat.le_of_ble_eq_true rfl) (Nat.le_of_ble_eq_true rfl) (Nat.le_of_ble_eq_true rfl)) (fun x72 h151 => ?_)
      refine g_istore (pc := 828) (lv' := [(5, .int x72), (0, .ref (e_ca E)), (1, .ref (e_z E + x1)), (2, .ref (e_z E + x2)), (3, .ref (e_z E + x3)), (4, .int x4)]) dL_law_828 (Nat.le_of_ble_eq_true rfl) rfl ?_
      refine g_aload_n (pc := 830) dL_law_830 3 rfl ?_
      refine g_aload_n (pc := 831) dL_law_831 1 rfl ?_
      refine g_iload (pc := 832) dL_law_832 5 rfl ?_
      refine g_iconst (pc := 834) dL_law_834 ci_1 ?_
      refine g_iadd (pc := 835) dL_law_835 ?_
      refine g_sld (pc := 836) dL_law_836 (fun x73 => ?_)
      refine g_aload_n (pc := 837) dL_law_837 1 rfl ?_
      refine g_iload (pc := 838) dL_law_838 5 rfl ?_
      refine g_iconst (pc := 840) dL_law_840 ci_2 ?_
      refine g_iadd (pc := 841) dL_law_841 ?_
      refine g_sld (pc := 842) dL_law_842 (fun x74 => ?_)
      refine g_gS (fun hs => ?_)
      refine g_bRi (pc := 843) (c_V cl12 hs (p_X12_lostSleepAfter hl x2 x73 x74 h151) y_X12_lostSleepAfter tw1939 dL_law_843 rfl (st := []) rfl (Nat.le_of_ble_eq_true rfl) (Nat.le_of_ble_eq_true rfl) (Nat.le_of_ble_eq_true rfl)) (fun x75 h152 => ?_)
      refine g_istore (pc := 846) (lv' := [(6, .int x75), (5, .int x72), (0, .ref (e_ca E)), (1, .ref (e_z E + x1)), (2, .ref (e_z E + x2)), (3, .ref (e_z E + x3)), (4, .int x4)]) dL_law_846 (Nat.le_of_ble_eq_true rfl) rfl ?_
      refine g_aload_n (pc := 848) dL_law_848 4 rfl ?_
      refine g_gS (fun hs => ?_)
      refine g_bRi (pc := 849) (c_V cl12 hs (p_X12_thrown hl x2 h152) y_X12_thrown tw1766 dL_law_849 rfl (st := []) rfl (Nat.le_of_ble_eq_true rfl) (Nat.le_of_ble_eq_true rfl) (Nat.le_of_ble_eq_true rfl)) (fun x76 h153 => ?_)
      refine g_iload (pc := 852) dL_law_852 1 rfl ?_
      refine g_icmpeq (pc := 854) (tgt := 859) dL_law_854 rfl ?_ ?_
      · refine g_iload (pc := 859) dL_law_859 1 rfl ?_
        refine g_join (fun k => ∀ (h154 : aH), J_L_law l E n0 m0 876 [(0, .ref (e_ca E)), (1, .ref (e_z E + x1)), (2, .ref (e_z E + x2)), (3, .ref (e_z E + x3)), (4, .int x4)] [] h154 (k h154)) (fun h154 => ?_) (fun k876 hk876 => ?_)
        · refine g_goto (pc := 876) (tgt := 3562) dL_law_876 rfl ?_
          exact hk3562 h154
        refine g_ifne (pc := 861) (tgt := 876) dL_law_861 rfl ?_ ?_
        · refine g_aload_n (pc := 864) dL_law_864 5 rfl ?_
          refine g_iconst (pc := 865) dL_law_865 ci_0 ?_
          refine g_lald (pc := 866) dL_law_866 (fun x77 => ?_)
          refine g_iload (pc := 867) dL_law_867 0 rfl ?_
          refine g_i2l (pc := 869) dL_law_869 ?_
          refine g_lcmp (pc := 870) dL_law_870 ?_
          refine g_ifeq (pc := 871) (tgt := 876) dL_law_871 rfl ?_ ?_
          · refine g_lv [2, 3, 4, 5, 6] rfl ?_
            exact hk876 h153
          · refine g_lv [] rfl ?_
            exact hk874 h153
        · refine g_lv [2, 3, 4, 5, 6] rfl ?_
          exact hk876 h153
      · refine g_lv [] rfl ?_
        exact hk857 h153
    refine g_swI (fun e12 => ?_) (fun e12 => ?_)
    · refine g_swIn (pc := 40) (tgt := 879) (off := 839) dL_law_40 (by omega) (by omega) (by rw [e12]; rfl) rfl ?_
      refine g_aload_n (pc := 879) dL_law_879 1 rfl ?_
      refine g_aload_n (pc := 880) dL_law_880 0 rfl ?_
      refine g_iload (pc := 881) dL_law_881 4 rfl ?_
      refine g_iconst (pc := 883) dL_law_883 ci_1 ?_
      refine g_iadd (pc := 884) dL_law_884 ?_
      refine g_sld (pc := 885) dL_law_885 (fun x78 => ?_)
      refine g_aload_n (pc := 886) dL_law_886 3 rfl ?_
      refine g_bRi (pc := 887) (c_SX (p_L_restedAt hl x1 x78 x3 h111) y_L_restedAt tw955 dL_law_887 rfl (st := []) rfl (Nat.le_of_ble_eq_true rfl) (Nat.le_of_ble_eq_true rfl) (Nat.le_of_ble_eq_true rfl)) (fun x79 h155 => ?_)
      refine g_istore (pc := 890) (lv' := [(5, .int x79), (0, .ref (e_ca E)), (1, .ref (e_z E + x1)), (2, .ref (e_z E + x2)), (3, .ref (e_z E + x3)), (4, .int x4)]) dL_law_890 (Nat.le_of_ble_eq_true rfl) rfl ?_
      refine g_aload_n (pc := 892) dL_law_892 3 rfl ?_
      refine g_aload_n (pc := 893) dL_law_893 1 rfl ?_
      refine g_iload (pc := 894) dL_law_894 5 rfl ?_
      refine g_iconst (pc := 896) dL_law_896 ci_1 ?_
      refine g_iadd (pc := 897) dL_law_897 ?_
      refine g_sld (pc := 898) dL_law_898 (fun x80 => ?_)
      refine g_gS (fun hs => ?_)
      refine g_bRi (pc := 899) (c_V cl12 hs (p_X12_restedAt hl x2 x80 h155) y_X12_restedAt tw1960 dL_law_899 rfl (st := []) rfl (Nat.le_of_ble_eq_true rfl) (Nat.le_of_ble_eq_true rfl) (Nat.le_of_ble_eq_true rfl)) (fun x81 h156 => ?_)
      refine g_istore (pc := 902) (lv' := [(6, .int x81), (5, .int x79), (0, .ref (e_ca E)), (1, .ref (e_z E + x1)), (2, .ref (e_z E + x2)), (3, .ref (e_z E + x3)), (4, .int x4)]) dL_law_902 (Nat.le_of_ble_eq_true rfl) rfl ?_
      refine g_aload_n (pc := 904) dL_law_904 4 rfl ?_
      refine g_gS (fun hs => ?_)
      refine g_bRi (pc := 905) (c_V cl12 hs (p_X12_thrown hl x2 h156) y_X12_thrown tw1766 dL_law_905 rfl (st := []) rfl (Nat.le_of_ble_eq_true rfl) (Nat.le_of_ble_eq_true rfl) (Nat.le_of_ble_eq_true rfl)) (fun x82 h157 => ?_)
      refine g_iload (pc := 908) dL_law_908 1 rfl ?_
      refine g_icmpeq (pc := 910) (tgt := 915) dL_law_910 rfl ?_ ?_
      · refine g_iload (pc := 915) dL_law_915 1 rfl ?_
        refine g_join (fun k => ∀ (h158 : aH), J_L_law l E n0 m0 932 [(0, .ref (e_ca E)), (1, .ref (e_z E + x1)), (2, .ref (e_z E + x2)), (3, .ref (e_z E + x3)), (4, .int x4)] [] h158 (k h158)) (fun h158 => ?_) (fun k932 hk932 => ?_)
        · refine g_goto (pc := 932) (tgt := 3562) dL_law_932 rfl ?_
          exact hk3562 h158
        refine g_ifne (pc := 917) (tgt := 932) dL_law_917 rfl ?_ ?_
        · refine g_aload_n (pc := 920) dL_law_920 5 rfl ?_
          refine g_iconst (pc := 921) dL_law_921 ci_0 ?_
          refine g_lald (pc := 922) dL_law_922 (fun x83 => ?_)
          refine g_iload (pc := 923) dL_law_923 0 rfl ?_
          refine g_i2l (pc := 925) dL_law_925 ?_
          refine g_lcmp (pc := 926) dL_law_926 ?_
          refine g_ifeq (pc := 927) (tgt := 932) dL_law_927 rfl ?_ ?_
          · refine g_lv [2, 3, 4, 5, 6] rfl ?_
            exact hk932 h157
          · refine g_lv [] rfl ?_
            exact hk930 h157
        · refine g_lv [2, 3, 4, 5, 6] rfl ?_
          exact hk932 h157
      · refine g_lv [] rfl ?_
        exact hk913 h157
    refine g_swI (fun e13 => ?_) (fun e13 => ?_)
    · refine g_swIn (pc := 40) (tgt := 935) (off := 895) dL_law_40 (by omega) (by omega) (by rw [e13]; rfl) rfl ?_
      refine g_aload_n (pc := 935) dL_law_935 1 rfl ?_
      refine g_aload_n (pc := 936) dL_law_936 0 rfl ?_
      refine g_iload (pc := 937) dL_law_937 4 rfl ?_
      refine g_iconst (pc := 939) dL_law_939 ci_1 ?_
      refine g_iadd (pc := 940) dL_law_940 ?_
      refine g_sld (pc := 941) dL_law_941 (fun x84 => ?_)
      refine g_aload_n (pc := 942) dL_law_942 3 rfl ?_
      refine g_bRi (pc := 943) (c_SX (p_L_arrival hl x1 x84 x3 h111) y_L_arrival tw972 dL_law_943 rfl (st := []) rfl (Nat.le_of_ble_eq_true rfl) (Nat.le_of_ble_eq_true rfl) (Nat.le_of_ble_eq_true rfl)) (fun x85 h159 => ?_)
      refine g_istore (pc := 946) (lv' := [(5, .int x85), (0, .ref (e_ca E)), (1, .ref (e_z E + x1)), (2, .ref (e_z E + x2)), (3, .ref (e_z E + x3)), (4, .int x4)]) dL_law_946 (Nat.le_of_ble_eq_true rfl) rfl ?_
      refine g_aload_n (pc := 948) dL_law_948 3 rfl ?_
      refine g_aload_n (pc := 949) dL_law_949 1 rfl ?_
      refine g_iload (pc := 950) dL_law_950 5 rfl ?_
      refine g_iconst (pc := 952) dL_law_952 ci_1 ?_
      refine g_iadd (pc := 953) dL_law_953 ?_
      refine g_sld (pc := 954) dL_law_954 (fun x86 => ?_)
      refine g_gS (fun hs => ?_)
      refine g_bRi (pc := 955) (c_V cl12 hs (p_X12_arrival hl x2 x86 h159) y_X12_arrival tw1968 dL_law_955 rfl (st := []) rfl (Nat.le_of_ble_eq_true rfl) (Nat.le_of_ble_eq_true rfl) (Nat.le_of_ble_eq_true rfl)) (fun x87 h160 => ?_)
      refine g_istore (pc := 958) (lv' := [(6, .int x87), (5, .int x85), (0, .ref (e_ca E)), (1, .ref (e_z E + x1)), (2, .ref (e_z E + x2)), (3, .ref (e_z E + x3)), (4, .int x4)]) dL_law_958 (Nat.le_of_ble_eq_true rfl) rfl ?_
      refine g_aload_n (pc := 960) dL_law_960 4 rfl ?_
      refine g_gS (fun hs => ?_)
      refine g_bRi (pc := 961) (c_V cl12 hs (p_X12_thrown hl x2 h160) y_X12_thrown tw1766 dL_law_961 rfl (st := []) rfl (Nat.le_of_ble_eq_true rfl) (Nat.le_of_ble_eq_true rfl) (Nat.le_of_ble_eq_true rfl)) (fun x88 h161 => ?_)
      refine g_iload (pc := 964) dL_law_964 1 rfl ?_
      refine g_icmpeq (pc := 966) (tgt := 971) dL_law_966 rfl ?_ ?_
      · refine g_iload (pc := 971) dL_law_971 1 rfl ?_
        refine g_join (fun k => ∀ (h162 : aH), J_L_law l E n0 m0 988 [(0, .ref (e_ca E)), (1, .ref (e_z E + x1)), (2, .ref (e_z E + x2)), (3, .ref (e_z E + x3)), (4, .int x4)] [] h162 (k h162)) (fun h162 => ?_) (fun k988 hk988 => ?_)
        · refine g_goto (pc := 988) (tgt := 3562) dL_law_988 rfl ?_
          exact hk3562 h162
        refine g_ifne (pc := 973) (tgt := 988) dL_law_973 rfl ?_ ?_
        · refine g_aload_n (pc := 976) dL_law_976 5 rfl ?_
          refine g_iconst (pc := 977) dL_law_977 ci_0 ?_
          refine g_lald (pc := 978) dL_law_978 (fun x89 => ?_)
          refine g_iload (pc := 979) dL_law_979 0 rfl ?_
          refine g_i2l (pc := 981) dL_law_981 ?_
          refine g_lcmp (pc := 982) dL_law_982 ?_
          refine g_ifeq (pc := 983) (tgt := 988) dL_law_983 rfl ?_ ?_
          · refine g_lv [2, 3, 4, 5, 6] rfl ?_
            exact hk988 h161
          · refine g_lv [] rfl ?_
            exact hk986 h161
        · refine g_lv [2, 3, 4, 5, 6] rfl ?_
          exact hk988 h161
      · refine g_lv [] rfl ?_
        exact hk969 h161
    refine g_swI (fun e14 => ?_) (fun e14 => ?_)
    · refine g_swIn (pc := 40) (tgt := 991) (off := 951) dL_law_40 (by omega) (by omega) (by rw [e14]; rfl) rfl ?_
      refine g_aload_n (pc := 991) dL_law_991 1 rfl ?_
      refine g_aload_n (pc := 992) dL_law_992 0 rfl ?_
      refine g_iload (pc := 993) dL_law_993 4 rfl ?_
      refine g_iconst (pc := 995) dL_law_995 ci_1 ?_
      refine g_iadd (pc := 996) dL_law_996 ?_
      refine g_sld (pc := 997) dL_law_997 (fun x90 => ?_)
      refine g_aload_n (pc := 998) dL_law_998 3 rfl ?_
      refine g_bRi (pc := 999) (c_SX (p_L_pay hl x1 x90 x3 h111) y_L_pay tw987 dL_law_999 rfl (st := []) rfl (Nat.le_of_ble_eq_true rfl) (Nat.le_of_ble_eq_true rfl) (Nat.le_of_ble_eq_true rfl)) (fun x91 h163 => ?_)
      refine g_istore (pc := 1002) (lv' := [(5, .int x91), (0, .ref (e_ca E)), (1, .ref (e_z E + x1)), (2, .ref (e_z E + x2)), (3, .ref (e_z E + x3)), (4, .int x4)]) dL_law_1002 (Nat.le_of_ble_eq_true rfl) rfl ?_
      refine g_aload_n (pc := 1004) dL_law_1004 3 rfl ?_
      refine g_aload_n (pc := 1005) dL_law_1005 1 rfl ?_
      refine g_iload (pc := 1006) dL_law_1006 5 rfl ?_
      refine g_iconst (pc := 1008) dL_law_1008 ci_1 ?_
      refine g_iadd (pc := 1009) dL_law_1009 ?_
      refine g_sld (pc := 1010) dL_law_1010 (fun x92 => ?_)
      refine g_gS (fun hs => ?_)
      refine g_bRi (pc := 1011) (c_V cl12 hs (p_X12_pay hl x2 x92 h163) y_X12_pay tw1976 dL_law_1011 rfl (st := []) rfl (Nat.le_of_ble_eq_true rfl) (Nat.le_of_ble_eq_true rfl) (Nat.le_of_ble_eq_true rfl)) (fun x93 h164 => ?_)
      refine g_istore (pc := 1014) (lv' := [(6, .int x93), (5, .int x91), (0, .ref (e_ca E)), (1, .ref (e_z E + x1)), (2, .ref (e_z E + x2)), (3, .ref (e_z E + x3)), (4, .int x4)]) dL_law_1014 (Nat.le_of_ble_eq_true rfl) rfl ?_
      refine g_aload_n (pc := 1016) dL_law_1016 4 rfl ?_
      refine g_gS (fun hs => ?_)
      refine g_bRi (pc := 1017) (c_V cl12 hs (p_X12_thrown hl x2 h164) y_X12_thrown tw1766 dL_law_1017 rfl (st := []) rfl (Nat.le_of_ble_eq_true rfl) (Nat.le_of_ble_eq_true rfl) (Nat.le_of_ble_eq_true rfl)) (fun x94 h165 => ?_)
      refine g_iload (pc := 1020) dL_law_1020 1 rfl ?_
      refine g_icmpeq (pc := 1022) (tgt := 1027) dL_law_1022 rfl ?_ ?_
      · refine g_iload (pc := 1027) dL_law_1027 1 rfl ?_
        refine g_join (fun k => ∀ (h166 : aH), J_L_law l E n0 m0 1044 [(0, .ref (e_ca E)), (1, .ref (e_z E + x1)), (2, .ref (e_z E + x2)), (3, .ref (e_z E + x3)), (4, .int x4)] [] h166 (k h166)) (fun h166 => ?_) (fun k1044 hk1044 => ?_)
        · refine g_goto (pc := 1044) (tgt := 3562) dL_law_1044 rfl ?_
          exact hk3562 h166
        refine g_ifne (pc := 1029) (tgt := 1044) dL_law_1029 rfl ?_ ?_
        · refine g_aload_n (pc := 1032) dL_law_1032 5 rfl ?_
          refine g_iconst (pc := 1033) dL_law_1033 ci_0 ?_
          refine g_lald (pc := 1034) dL_law_1034 (fun x95 => ?_)
          refine g_iload (pc := 1035) dL_law_1035 0 rfl ?_
          refine g_i2l (pc := 1037) dL_law_1037 ?_
          refine g_lcmp (pc := 1038) dL_law_1038 ?_
          refine g_ifeq (pc := 1039) (tgt := 1044) dL_law_1039 rfl ?_ ?_
          · refine g_lv [2, 3, 4, 5, 6] rfl ?_
            exact hk1044 h165
          · refine g_lv [] rfl ?_
            exact hk1042 h165
        · refine g_lv [2, 3, 4, 5, 6] rfl ?_
          exact hk1044 h165
      · refine g_lv [] rfl ?_
        exact hk1025 h165
    refine g_swI (fun e15 => ?_) (fun e15 => ?_)
    · refine g_swIn (pc := 40) (tgt := 1047) (off := 1007) dL_law_40 (by omega) (by omega) (by rw [e15]; rfl) rfl ?_
      refine g_aload_n (pc := 1047) dL_law_1047 1 rfl ?_
      refine g_aload_n (pc := 1048) dL_law_1048 0 rfl ?_
      refine g_iload (pc := 1049) dL_law_1049 4 rfl ?_
      refine g_iconst (pc := 1051) dL_law_1051 ci_1 ?_
      refine g_iadd (pc := 1052) dL_law_1052 ?_
      refine g_sld (pc := 1053) dL_law_1053 (fun x96 => ?_)
      refine g_aload_n (pc := 1054) dL_law_1054 0 rfl ?_
      refine g_iload (pc := 1055) dL_law_1055 4 rfl ?_
      refine g_iconst (pc := 1057) dL_law_1057 ci_2 ?_
      refine g_iadd (pc := 1058) dL_law_1058 ?_
      refine g_sld (pc := 1059) dL_law_1059 (fun x97 => ?_)
      refine g_aload_n (pc := 1060) dL_law_1060 3 rfl ?_
      refine g_bRi (pc := 1061) (c_SX (p_L_trust hl x1 x96 x97 x3 h111) y_L_trust tw994 dL_law_1061 rfl (st := []) rfl (Nat.le_of_ble_eq_true rfl) (Nat.le_of_ble_eq_true rfl) (Nat.le_of_ble_eq_true rfl)) (fun x98 h167 => ?_)
      refine g_istore (pc := 1064) (lv' := [(5, .int x98), (0, .ref (e_ca E)), (1, .ref (e_z E + x1)), (2, .ref (e_z E + x2)), (3, .ref (e_z E + x3)), (4, .int x4)]) dL_law_1064 (Nat.le_of_ble_eq_true rfl) rfl ?_
      refine g_aload_n (pc := 1066) dL_law_1066 3 rfl ?_
      refine g_aload_n (pc := 1067) dL_law_1067 1 rfl ?_
      refine g_iload (pc := 1068) dL_law_1068 5 rfl ?_
      refine g_iconst (pc := 1070) dL_law_1070 ci_1 ?_
      refine g_iadd (pc := 1071) dL_law_1071 ?_
      refine g_sld (pc := 1072) dL_law_1072 (fun x99 => ?_)
      refine g_aload_n (pc := 1073) dL_law_1073 1 rfl ?_
      refine g_iload (pc := 1074) dL_law_1074 5 rfl ?_
      refine g_iconst (pc := 1076) dL_law_1076 ci_2 ?_
      refine g_iadd (pc := 1077) dL_law_1077 ?_
      refine g_sld (pc := 1078) dL_law_1078 (fun x100 => ?_)
      refine g_gS (fun hs => ?_)
      refine g_bRi (pc := 1079) (c_V cl12 hs (p_X12_trust_ hl x2 x99 x100 h167) y_X12_trust_ tw1980 dL_law_1079 rfl (st := []) rfl (Nat.le_of_ble_eq_true rfl) (Nat.le_of_ble_eq_true rfl) (Nat.le_of_ble_eq_true rfl)) (fun x101 h168 => ?_)
      refine g_istore (pc := 1082) (lv' := [(6, .int x101), (5, .int x98), (0, .ref (e_ca E)), (1, .ref (e_z E + x1)), (2, .ref (e_z E + x2)), (3, .ref (e_z E + x3)), (4, .int x4)]) dL_law_1082 (Nat.le_of_ble_eq_true rfl) rfl ?_
      refine g_aload_n (pc := 1084) dL_law_1084 4 rfl ?_
      refine g_gS (fun hs => ?_)
      refine g_bRi (pc := 1085) (c_V cl12 hs (p_X12_thrown hl x2 h168) y_X12_thrown tw1766 dL_law_1085 rfl (st := []) rfl (Nat.le_of_ble_eq_true rfl) (Nat.le_of_ble_eq_true rfl) (Nat.le_of_ble_eq_true rfl)) (fun x102 h169 => ?_)
      refine g_iload (pc := 1088) dL_law_1088 1 rfl ?_
      refine g_icmpeq (pc := 1090) (tgt := 1095) dL_law_1090 rfl ?_ ?_
      · refine g_iload (pc := 1095) dL_law_1095 1 rfl ?_
        refine g_join (fun k => ∀ (h170 : aH), J_L_law l E n0 m0 1112 [(0, .ref (e_ca E)), (1, .ref (e_z E + x1)), (2, .ref (e_z E + x2)), (3, .ref (e_z E + x3)), (4, .int x4)] [] h170 (k h170)) (fun h170 => ?_) (fun k1112 hk1112 => ?_)
        · refine g_goto (pc := 1112) (tgt := 3562) dL_law_1112 rfl ?_
          exact hk3562 h170
        refine g_ifne (pc := 1097) (tgt := 1112) dL_law_1097 rfl ?_ ?_
        · refine g_aload_n (pc := 1100) dL_law_1100 5 rfl ?_
          refine g_iconst (pc := 1101) dL_law_1101 ci_0 ?_
          refine g_lald (pc := 1102) dL_law_1102 (fun x103 => ?_)
          refine g_iload (pc := 1103) dL_law_1103 0 rfl ?_
          refine g_i2l (pc := 1105) dL_law_1105 ?_
          refine g_lcmp (pc := 1106) dL_law_1106 ?_
          refine g_ifeq (pc := 1107) (tgt := 1112) dL_law_1107 rfl ?_ ?_
          · refine g_lv [2, 3, 4, 5, 6] rfl ?_
            exact hk1112 h169
          · refine g_lv [] rfl ?_
            exact hk1110 h169
        · refine g_lv [2, 3, 4, 5, 6] rfl ?_
          exact hk1112 h169
      · refine g_lv [] rfl ?_
        exact hk1093 h169
    refine g_swI (fun e16 => ?_) (fun e16 => ?_)
    · refine g_swIn (pc := 40) (tgt := 1115) (off := 1075) dL_law_40 (by omega) (by omega) (by rw [e16]; rfl) rfl ?_
      refine g_aload_n (pc := 1115) dL_law_1115 1 rfl ?_
      refine g_aload_n (pc := 1116) dL_law_1116 0 rfl ?_
      refine g_iload (pc := 1117) dL_law_1117 4 rfl ?_
      refine g_iconst (pc := 1119) dL_law_1119 ci_1 ?_
      refine g_iadd (pc := 1120) dL_law_1120 ?_
      refine g_sld (pc := 1121) dL_law_1121 (fun x104 => ?_)
      refine g_aload_n (pc := 1122) dL_law_1122 0 rfl ?_
      refine g_iload (pc := 1123) dL_law_1123 4 rfl ?_
      refine g_iconst (pc := 1125) dL_law_1125 ci_2 ?_
      refine g_iadd (pc := 1126) dL_law_1126 ?_
      refine g_sld (pc := 1127) dL_law_1127 (fun x105 => ?_)
      refine g_aload_n (pc := 1128) dL_law_1128 3 rfl ?_
      refine g_bRi (pc := 1129) (c_SX (p_L_trustPath hl x1 x104 x105 x3 h111) y_L_trustPath tw1007 dL_law_1129 rfl (st := []) rfl (Nat.le_of_ble_eq_true rfl) (Nat.le_of_ble_eq_true rfl) (Nat.le_of_ble_eq_true rfl)) (fun x106 h171 => ?_)
      refine g_istore (pc := 1132) (lv' := [(5, .int x106), (0, .ref (e_ca E)), (1, .ref (e_z E + x1)), (2, .ref (e_z E + x2)), (3, .ref (e_z E + x3)), (4, .int x4)]) dL_law_1132 (Nat.le_of_ble_eq_true rfl) rfl ?_
      refine g_aload_n (pc := 1134) dL_law_1134 3 rfl ?_
      refine g_aload_n (pc := 1135) dL_law_1135 1 rfl ?_
      refine g_iload (pc := 1136) dL_law_1136 5 rfl ?_
      refine g_iconst (pc := 1138) dL_law_1138 ci_1 ?_
      refine g_iadd (pc := 1139) dL_law_1139 ?_
      refine g_sld (pc := 1140) dL_law_1140 (fun x107 => ?_)
      refine g_aload_n (pc := 1141) dL_law_1141 1 rfl ?_
      refine g_iload (pc := 1142) dL_law_1142 5 rfl ?_
      refine g_iconst (pc := 1144) dL_law_1144 ci_2 ?_
      refine g_iadd (pc := 1145) dL_law_1145 ?_
      refine g_sld (pc := 1146) dL_law_1146 (fun x108 => ?_)
      refine g_gS (fun hs => ?_)
      refine g_bRi (pc := 1147) (c_V cl12 hs (p_X12_trustPath hl x2 x107 x108 h171) y_X12_trustPath tw1988 dL_law_1147 rfl (st := []) rfl (Nat.le_of_ble_eq_true rfl) (Nat.le_of_ble_eq_true rfl) (Nat.le_of_ble_eq_true rfl)) (fun x109 h172 => ?_)
      refine g_istore (pc := 1150) (lv' := [(6, .int x109), (5, .int x106), (0, .ref (e_ca E)), (1, .ref (e_z E + x1)), (2, .ref (e_z E + x2)), (3, .ref (e_z E + x3)), (4, .int x4)]) dL_law_1150 (Nat.le_of_ble_eq_true rfl) rfl ?_
      refine g_aload_n (pc := 1152) dL_law_1152 4 rfl ?_
      refine g_gS (fun hs => ?_)
      refine g_bRi (pc := 1153) (c_V cl12 hs (p_X12_thrown hl x2 h172) y_X12_thrown tw1766 dL_law_1153 rfl (st := []) rfl (Nat.le_of_ble_eq_true rfl) (Nat.le_of_ble_eq_true rfl) (Nat.le_of_ble_eq_true rfl)) (fun x110 h173 => ?_)
      refine g_iload (pc := 1156) dL_law_1156 1 rfl ?_
      refine g_icmpeq (pc := 1158) (tgt := 1163) dL_law_1158 rfl ?_ ?_
      · refine g_iload (pc := 1163) dL_law_1163 1 rfl ?_
        refine g_join (fun k => ∀ (h174 : aH), J_L_law l E n0 m0 1180 [(0, .ref (e_ca E)), (1, .ref (e_z E + x1)), (2, .ref (e_z E + x2)), (3, .ref (e_z E + x3)), (4, .int x4)] [] h174 (k h174)) (fun h174 => ?_) (fun k1180 hk1180 => ?_)
        · refine g_goto (pc := 1180) (tgt := 3562) dL_law_1180 rfl ?_
          exact hk3562 h174
        refine g_ifne (pc := 1165) (tgt := 1180) dL_law_1165 rfl ?_ ?_
        · refine g_aload_n (pc := 1168) dL_law_1168 5 rfl ?_
          refine g_iconst (pc := 1169) dL_law_1169 ci_0 ?_
          refine g_lald (pc := 1170) dL_law_1170 (fun x111 => ?_)
          refine g_iload (pc := 1171) dL_law_1171 0 rfl ?_
          refine g_i2l (pc := 1173) dL_law_1173 ?_
          refine g_lcmp (pc := 1174) dL_law_1174 ?_
          refine g_ifeq (pc := 1175) (tgt := 1180) dL_law_1175 rfl ?_ ?_
          · refine g_lv [2, 3, 4, 5, 6] rfl ?_
            exact hk1180 h173
          · refine g_lv [] rfl ?_
            exact hk1178 h173
        · refine g_lv [2, 3, 4, 5, 6] rfl ?_
          exact hk1180 h173
      · refine g_lv [] rfl ?_
        exact hk1161 h173
    refine g_swI (fun e17 => ?_) (fun e17 => ?_)
    · refine g_swIn (pc := 40) (tgt := 1183) (off := 1143) dL_law_40 (by omega) (by omega) (by rw [e17]; rfl) rfl ?_
      refine g_aload_n (pc := 1183) dL_law_1183 1 rfl ?_
      refine g_aload_n (pc := 1184) dL_law_1184 0 rfl ?_
      refine g_iload (pc := 1185) dL_law_1185 4 rfl ?_
      refine g_iconst (pc := 1187) dL_law_1187 ci_1 ?_
      refine g_iadd (pc := 1188) dL_law_1188 ?_
      refine g_sld (pc := 1189) dL_law_1189 (fun x112 => ?_)
      refine g_aload_n (pc := 1190) dL_law_1190 0 rfl ?_
      refine g_iload (pc := 1191) dL_law_1191 4 rfl ?_
      refine g_iconst (pc := 1193) dL_law_1193 ci_2 ?_
      refine g_iadd (pc := 1194) dL_law_1194 ?_
      refine g_sld (pc := 1195) dL_law_1195 (fun x113 => ?_)
      refine g_aload_n (pc := 1196) dL_law_1196 3 rfl ?_
      refine g_bRi (pc := 1197) (c_SX (p_L_chain hl x1 x112 x113 x3 h111) y_L_chain tw1019 dL_law_1197 rfl (st := []) rfl (Nat.le_of_ble_eq_true rfl) (Nat.le_of_ble_eq_true rfl) (Nat.le_of_ble_eq_true rfl)) (fun x114 h175 => ?_)
      refine g_istore (pc := 1200) (lv' := [(5, .int x114), (0, .ref (e_ca E)), (1, .ref (e_z E + x1)), (2, .ref (e_z E + x2)), (3, .ref (e_z E + x3)), (4, .int x4)]) dL_law_1200 (Nat.le_of_ble_eq_true rfl) rfl ?_
      refine g_aload_n (pc := 1202) dL_law_1202 3 rfl ?_
      refine g_aload_n (pc := 1203) dL_law_1203 1 rfl ?_
      refine g_iload (pc := 1204) dL_law_1204 5 rfl ?_
      refine g_iconst (pc := 1206) dL_law_1206 ci_1 ?_
      refine g_iadd (pc := 1207) dL_law_1207 ?_
      refine g_sld (pc := 1208) dL_law_1208 (fun x115 => ?_)
      refine g_aload_n (pc := 1209) dL_law_1209 1 rfl ?_
      refine g_iload (pc := 1210) dL_law_1210 5 rfl ?_
      refine g_iconst (pc := 1212) dL_law_1212 ci_2 ?_
      refine g_iadd (pc := 1213) dL_law_1213 ?_
      refine g_sld (pc := 1214) dL_law_1214 (fun x116 => ?_)
      refine g_gS (fun hs => ?_)
      refine g_bRi (pc := 1215) (c_V cl12 hs (p_X12_chain hl x2 x115 x116 h175) y_X12_chain tw1992 dL_law_1215 rfl (st := []) rfl (Nat.le_of_ble_eq_true rfl) (Nat.le_of_ble_eq_true rfl) (Nat.le_of_ble_eq_true rfl)) (fun x117 h176 => ?_)
      refine g_istore (pc := 1218) (lv' := [(6, .int x117), (5, .int x114), (0, .ref (e_ca E)), (1, .ref (e_z E + x1)), (2, .ref (e_z E + x2)), (3, .ref (e_z E + x3)), (4, .int x4)]) dL_law_1218 (Nat.le_of_ble_eq_true rfl) rfl ?_
      refine g_aload_n (pc := 1220) dL_law_1220 4 rfl ?_
      refine g_gS (fun hs => ?_)
      refine g_bRi (pc := 1221) (c_V cl12 hs (p_X12_thrown hl x2 h176) y_X12_thrown tw1766 dL_law_1221 rfl (st := []) rfl (Nat.le_of_ble_eq_true rfl) (Nat.le_of_ble_eq_true rfl) (Nat.le_of_ble_eq_true rfl)) (fun x118 h177 => ?_)
      refine g_iload (pc := 1224) dL_law_1224 1 rfl ?_
      refine g_icmpeq (pc := 1226) (tgt := 1231) dL_law_1226 rfl ?_ ?_
      · refine g_iload (pc := 1231) dL_law_1231 1 rfl ?_
        refine g_join (fun k => ∀ (h178 : aH), J_L_law l E n0 m0 1248 [(0, .ref (e_ca E)), (1, .ref (e_z E + x1)), (2, .ref (e_z E + x2)), (3, .ref (e_z E + x3)), (4, .int x4)] [] h178 (k h178)) (fun h178 => ?_) (fun k1248 hk1248 => ?_)
        · refine g_goto (pc := 1248) (tgt := 3562) dL_law_1248 rfl ?_
          exact hk3562 h178
        refine g_ifne (pc := 1233) (tgt := 1248) dL_law_1233 rfl ?_ ?_
        · refine g_aload_n (pc := 1236) dL_law_1236 5 rfl ?_
          refine g_iconst (pc := 1237) dL_law_1237 ci_0 ?_
          refine g_lald (pc := 1238) dL_law_1238 (fun x119 => ?_)
          refine g_iload (pc := 1239) dL_law_1239 0 rfl ?_
          refine g_i2l (pc := 1241) dL_law_1241 ?_
          refine g_lcmp (pc := 1242) dL_law_1242 ?_
          refine g_ifeq (pc := 1243) (tgt := 1248) dL_law_1243 rfl ?_ ?_
          · refine g_lv [2, 3, 4, 5, 6] rfl ?_
            exact hk1248 h177
          · refine g_lv [] rfl ?_
            exact hk1246 h177
        · refine g_lv [2, 3, 4, 5, 6] rfl ?_
          exact hk1248 h177
      · refine g_lv [] rfl ?_
        exact hk1229 h177
    refine g_swI (fun e18 => ?_) (fun e18 => ?_)
    · refine g_swIn (pc := 40) (tgt := 1251) (off := 1211) dL_law_40 (by omega) (by omega) (by rw [e18]; rfl) rfl ?_
      refine g_aload_n (pc := 1251) dL_law_1251 1 rfl ?_
      refine g_aload_n (pc := 1252) dL_law_1252 0 rfl ?_
      refine g_iload (pc := 1253) dL_law_1253 4 rfl ?_
      refine g_iconst (pc := 1255) dL_law_1255 ci_1 ?_
      refine g_iadd (pc := 1256) dL_law_1256 ?_
      refine g_sld (pc := 1257) dL_law_1257 (fun x120 => ?_)
      refine g_aload_n (pc := 1258) dL_law_1258 3 rfl ?_
      refine g_bRi (pc := 1259) (c_SX (p_L_handOns hl x1 x120 x3 h111) y_L_handOns tw1040 dL_law_1259 rfl (st := []) rfl (Nat.le_of_ble_eq_true rfl) (Nat.le_of_ble_eq_true rfl) (Nat.le_of_ble_eq_true rfl)) (fun x121 h179 => ?_)
      refine g_istore (pc := 1262) (lv' := [(5, .int x121), (0, .ref (e_ca E)), (1, .ref (e_z E + x1)), (2, .ref (e_z E + x2)), (3, .ref (e_z E + x3)), (4, .int x4)]) dL_law_1262 (Nat.le_of_ble_eq_true rfl) rfl ?_
      refine g_aload_n (pc := 1264) dL_law_1264 3 rfl ?_
      refine g_aload_n (pc := 1265) dL_law_1265 1 rfl ?_
      refine g_iload (pc := 1266) dL_law_1266 5 rfl ?_
      refine g_iconst (pc := 1268) dL_law_1268 ci_1 ?_
      refine g_iadd (pc := 1269) dL_law_1269 ?_
      refine g_sld (pc := 1270) dL_law_1270 (fun x122 => ?_)
      refine g_gS (fun hs => ?_)
      refine g_bRi (pc := 1271) (c_V cl12 hs (p_X12_handOns hl x2 x122 h179) y_X12_handOns tw2016 dL_law_1271 rfl (st := []) rfl (Nat.le_of_ble_eq_true rfl) (Nat.le_of_ble_eq_true rfl) (Nat.le_of_ble_eq_true rfl)) (fun x123 h180 => ?_)
      refine g_istore (pc := 1274) (lv' := [(6, .int x123), (5, .int x121), (0, .ref (e_ca E)), (1, .ref (e_z E + x1)), (2, .ref (e_z E + x2)), (3, .ref (e_z E + x3)), (4, .int x4)]) dL_law_1274 (Nat.le_of_ble_eq_true rfl) rfl ?_
      refine g_aload_n (pc := 1276) dL_law_1276 4 rfl ?_
      refine g_gS (fun hs => ?_)
      refine g_bRi (pc := 1277) (c_V cl12 hs (p_X12_thrown hl x2 h180) y_X12_thrown tw1766 dL_law_1277 rfl (st := []) rfl (Nat.le_of_ble_eq_true rfl) (Nat.le_of_ble_eq_true rfl) (Nat.le_of_ble_eq_true rfl)) (fun x124 h181 => ?_)
      refine g_iload (pc := 1280) dL_law_1280 1 rfl ?_
      refine g_icmpeq (pc := 1282) (tgt := 1287) dL_law_1282 rfl ?_ ?_
      · refine g_iload (pc := 1287) dL_law_1287 1 rfl ?_
        refine g_join (fun k => ∀ (h182 : aH), J_L_law l E n0 m0 1304 [(0, .ref (e_ca E)), (1, .ref (e_z E + x1)), (2, .ref (e_z E + x2)), (3, .ref (e_z E + x3)), (4, .int x4)] [] h182 (k h182)) (fun h182 => ?_) (fun k1304 hk1304 => ?_)
        · refine g_goto (pc := 1304) (tgt := 3562) dL_law_1304 rfl ?_
          exact hk3562 h182
        refine g_ifne (pc := 1289) (tgt := 1304) dL_law_1289 rfl ?_ ?_
        · refine g_aload_n (pc := 1292) dL_law_1292 5 rfl ?_
          refine g_iconst (pc := 1293) dL_law_1293 ci_0 ?_
          refine g_lald (pc := 1294) dL_law_1294 (fun x125 => ?_)
          refine g_iload (pc := 1295) dL_law_1295 0 rfl ?_
          refine g_i2l (pc := 1297) dL_law_1297 ?_
          refine g_lcmp (pc := 1298) dL_law_1298 ?_
          refine g_ifeq (pc := 1299) (tgt := 1304) dL_law_1299 rfl ?_ ?_
          · refine g_lv [2, 3, 4, 5, 6] rfl ?_
            exact hk1304 h181
          · refine g_lv [] rfl ?_
            exact hk1302 h181
        · refine g_lv [2, 3, 4, 5, 6] rfl ?_
          exact hk1304 h181
      · refine g_lv [] rfl ?_
        exact hk1285 h181
    refine g_swI (fun e19 => ?_) (fun e19 => ?_)
    · refine g_swIn (pc := 40) (tgt := 1307) (off := 1267) dL_law_40 (by omega) (by omega) (by rw [e19]; rfl) rfl ?_
      refine g_aload_n (pc := 1307) dL_law_1307 1 rfl ?_
      refine g_aload_n (pc := 1308) dL_law_1308 0 rfl ?_
      refine g_iload (pc := 1309) dL_law_1309 4 rfl ?_
      refine g_iconst (pc := 1311) dL_law_1311 ci_1 ?_
      refine g_iadd (pc := 1312) dL_law_1312 ?_
      refine g_sld (pc := 1313) dL_law_1313 (fun x126 => ?_)
      refine g_aload_n (pc := 1314) dL_law_1314 3 rfl ?_
      refine g_bRi (pc := 1315) (c_SX (p_L_holdingEnd hl x1 x126 x3 h111) y_L_holdingEnd tw1047 dL_law_1315 rfl (st := []) rfl (Nat.le_of_ble_eq_true rfl) (Nat.le_of_ble_eq_true rfl) (Nat.le_of_ble_eq_true rfl)) (fun x127 h183 => ?_)
      refine g_istore (pc := 1318) (lv' := [(5, .int x127), (0, .ref (e_ca E)), (1, .ref (e_z E + x1)), (2, .ref (e_z E + x2)), (3, .ref (e_z E + x3)), (4, .int x4)]) dL_law_1318 (Nat.le_of_ble_eq_true rfl) rfl ?_
      refine g_aload_n (pc := 1320) dL_law_1320 3 rfl ?_
      refine g_aload_n (pc := 1321) dL_law_1321 1 rfl ?_
      refine g_iload (pc := 1322) dL_law_1322 5 rfl ?_
      refine g_iconst (pc := 1324) dL_law_1324 ci_1 ?_
      refine g_iadd (pc := 1325) dL_law_1325 ?_
      refine g_sld (pc := 1326) dL_law_1326 (fun x128 => ?_)
      refine g_gS (fun hs => ?_)
      refine g_bRi (pc := 1327) (c_V cl12 hs (p_X12_holdingEnd hl x2 x128 h183) y_X12_holdingEnd tw2020 dL_law_1327 rfl (st := []) rfl (Nat.le_of_ble_eq_true rfl) (Nat.le_of_ble_eq_true rfl) (Nat.le_of_ble_eq_true rfl)) (fun x129 h184 => ?_)
      refine g_istore (pc := 1330) (lv' := [(6, .int x129), (5, .int x127), (0, .ref (e_ca E)), (1, .ref (e_z E + x1)), (2, .ref (e_z E + x2)), (3, .ref (e_z E + x3)), (4, .int x4)]) dL_law_1330 (Nat.le_of_ble_eq_true rfl) rfl ?_
      refine g_aload_n (pc := 1332) dL_law_1332 4 rfl ?_
      refine g_gS (fun hs => ?_)
      refine g_bRi (pc := 1333) (c_V cl12 hs (p_X12_thrown hl x2 h184) y_X12_thrown tw1766 dL_law_1333 rfl (st := []) rfl (Nat.le_of_ble_eq_true rfl) (Nat.le_of_ble_eq_true rfl) (Nat.le_of_ble_eq_true rfl)) (fun x130 h185 => ?_)
      refine g_iload (pc := 1336) dL_law_1336 1 rfl ?_
      refine g_icmpeq (pc := 1338) (tgt := 1343) dL_law_1338 rfl ?_ ?_
      · refine g_iload (pc := 1343) dL_law_1343 1 rfl ?_
        refine g_join (fun k => ∀ (h186 : aH), J_L_law l E n0 m0 1360 [(0, .ref (e_ca E)), (1, .ref (e_z E + x1)), (2, .ref (e_z E + x2)), (3, .ref (e_z E + x3)), (4, .int x4)] [] h186 (k h186)) (fun h186 => ?_) (fun k1360 hk1360 => ?_)
        · refine g_goto (pc := 1360) (tgt := 3562) dL_law_1360 rfl ?_
          exact hk3562 h186
        refine g_ifne (pc := 1345) (tgt := 1360) dL_law_1345 rfl ?_ ?_
        · refine g_aload_n (pc := 1348) dL_law_1348 5 rfl ?_
          refine g_iconst (pc := 1349) dL_law_1349 ci_0 ?_
          refine g_lald (pc := 1350) dL_law_1350 (fun x131 => ?_)
          refine g_iload (pc := 1351) dL_law_1351 0 rfl ?_
          refine g_i2l (pc := 1353) dL_law_1353 ?_
          refine g_lcmp (pc := 1354) dL_law_1354 ?_
          refine g_ifeq (pc := 1355) (tgt := 1360) dL_law_1355 rfl ?_ ?_
          · refine g_lv [2, 3, 4, 5, 6] rfl ?_
            exact hk1360 h185
          · refine g_lv [] rfl ?_
            exact hk1358 h185
        · refine g_lv [2, 3, 4, 5, 6] rfl ?_
          exact hk1360 h185
      · refine g_lv [] rfl ?_
        exact hk1341 h185
    refine g_swI (fun e20 => ?_) (fun e20 => ?_)
    · refine g_swIn (pc := 40) (tgt := 1363) (off := 1323) dL_law_40 (by omega) (by omega) (by rw [e20]; rfl) rfl ?_
      refine g_aload_n (pc := 1363) dL_law_1363 1 rfl ?_
      refine g_aload_n (pc := 1364) dL_law_1364 0 rfl ?_
      refine g_iload (pc := 1365) dL_law_1365 4 rfl ?_
      refine g_iconst (pc := 1367) dL_law_1367 ci_1 ?_
      refine g_iadd (pc := 1368) dL_law_1368 ?_
      refine g_sld (pc := 1369) dL_law_1369 (fun x132 => ?_)
      refine g_aload_n (pc := 1370) dL_law_1370 0 rfl ?_
      refine g_iload (pc := 1371) dL_law_1371 4 rfl ?_
      refine g_iconst (pc := 1373) dL_law_1373 ci_2 ?_
      refine g_iadd (pc := 1374) dL_law_1374 ?_
      refine g_sld (pc := 1375) dL_law_1375 (fun x133 => ?_)
      refine g_aload_n (pc := 1376) dL_law_1376 3 rfl ?_
      refine g_bRi (pc := 1377) (c_SX (p_L_rotation hl x1 x132 x133 x3 h111) y_L_rotation tw1062 dL_law_1377 rfl (st := []) rfl (Nat.le_of_ble_eq_true rfl) (Nat.le_of_ble_eq_true rfl) (Nat.le_of_ble_eq_true rfl)) (fun x134 h187 => ?_)
      refine g_istore (pc := 1380) (lv' := [(5, .int x134), (0, .ref (e_ca E)), (1, .ref (e_z E + x1)), (2, .ref (e_z E + x2)), (3, .ref (e_z E + x3)), (4, .int x4)]) dL_law_1380 (Nat.le_of_ble_eq_true rfl) rfl ?_
      refine g_aload_n (pc := 1382) dL_law_1382 3 rfl ?_
      refine g_aload_n (pc := 1383) dL_law_1383 1 rfl ?_
      refine g_iload (pc := 1384) dL_law_1384 5 rfl ?_
      refine g_iconst (pc := 1386) dL_law_1386 ci_1 ?_
      refine g_iadd (pc := 1387) dL_law_1387 ?_
      refine g_sld (pc := 1388) dL_law_1388 (fun x135 => ?_)
      refine g_aload_n (pc := 1389) dL_law_1389 1 rfl ?_
      refine g_iload (pc := 1390) dL_law_1390 5 rfl ?_
      refine g_iconst (pc := 1392) dL_law_1392 ci_2 ?_
      refine g_iadd (pc := 1393) dL_law_1393 ?_
      refine g_sld (pc := 1394) dL_law_1394 (fun x136 => ?_)
      refine g_gS (fun hs => ?_)
      refine g_bRi (pc := 1395) (c_V cl12 hs (p_X12_rotation hl x2 x135 x136 h187) y_X12_rotation tw2028 dL_law_1395 rfl (st := []) rfl (Nat.le_of_ble_eq_true rfl) (Nat.le_of_ble_eq_true rfl) (Nat.le_of_ble_eq_true rfl)) (fun x137 h188 => ?_)
      refine g_istore (pc := 1398) (lv' := [(6, .int x137), (5, .int x134), (0, .ref (e_ca E)), (1, .ref (e_z E + x1)), (2, .ref (e_z E + x2)), (3, .ref (e_z E + x3)), (4, .int x4)]) dL_law_1398 (Nat.le_of_ble_eq_true rfl) rfl ?_
      refine g_aload_n (pc := 1400) dL_law_1400 4 rfl ?_
      refine g_gS (fun hs => ?_)
      refine g_bRi (pc := 1401) (c_V cl12 hs (p_X12_thrown hl x2 h188) y_X12_thrown tw1766 dL_law_1401 rfl (st := []) rfl (Nat.le_of_ble_eq_true rfl) (Nat.le_of_ble_eq_true rfl) (Nat.le_of_ble_eq_true rfl)) (fun x138 h189 => ?_)
      refine g_iload (pc := 1404) dL_law_1404 1 rfl ?_
      refine g_icmpeq (pc := 1406) (tgt := 1411) dL_law_1406 rfl ?_ ?_
      · refine g_iload (pc := 1411) dL_law_1411 1 rfl ?_
        refine g_join (fun k => ∀ (h190 : aH), J_L_law l E n0 m0 1428 [(0, .ref (e_ca E)), (1, .ref (e_z E + x1)), (2, .ref (e_z E + x2)), (3, .ref (e_z E + x3)), (4, .int x4)] [] h190 (k h190)) (fun h190 => ?_) (fun k1428 hk1428 => ?_)
        · refine g_goto (pc := 1428) (tgt := 3562) dL_law_1428 rfl ?_
          exact hk3562 h190
        refine g_ifne (pc := 1413) (tgt := 1428) dL_law_1413 rfl ?_ ?_
        · refine g_aload_n (pc := 1416) dL_law_1416 5 rfl ?_
          refine g_iconst (pc := 1417) dL_law_1417 ci_0 ?_
          refine g_lald (pc := 1418) dL_law_1418 (fun x139 => ?_)
          refine g_iload (pc := 1419) dL_law_1419 0 rfl ?_
          refine g_i2l (pc := 1421) dL_law_1421 ?_
          refine g_lcmp (pc := 1422) dL_law_1422 ?_
          refine g_ifeq (pc := 1423) (tgt := 1428) dL_law_1423 rfl ?_ ?_
          · refine g_lv [2, 3, 4, 5, 6] rfl ?_
            exact hk1428 h189
          · refine g_lv [] rfl ?_
            exact hk1426 h189
        · refine g_lv [2, 3, 4, 5, 6] rfl ?_
          exact hk1428 h189
      · refine g_lv [] rfl ?_
        exact hk1409 h189
    refine g_swI (fun e21 => ?_) (fun e21 => ?_)
    · refine g_swIn (pc := 40) (tgt := 1431) (off := 1391) dL_law_40 (by omega) (by omega) (by rw [e21]; rfl) rfl ?_
      refine g_aload_n (pc := 1431) dL_law_1431 1 rfl ?_
      refine g_aload_n (pc := 1432) dL_law_1432 0 rfl ?_
      refine g_iload (pc := 1433) dL_law_1433 4 rfl ?_
      refine g_iconst (pc := 1435) dL_law_1435 ci_1 ?_
      refine g_iadd (pc := 1436) dL_law_1436 ?_
      refine g_sld (pc := 1437) dL_law_1437 (fun x140 => ?_)
      refine g_aload_n (pc := 1438) dL_law_1438 0 rfl ?_
      refine g_iload (pc := 1439) dL_law_1439 4 rfl ?_
      refine g_iconst (pc := 1441) dL_law_1441 ci_2 ?_
      refine g_iadd (pc := 1442) dL_law_1442 ?_
      refine g_sld (pc := 1443) dL_law_1443 (fun x141 => ?_)
      refine g_aload_n (pc := 1444) dL_law_1444 3 rfl ?_
      refine g_bRi (pc := 1445) (c_SX (p_L_holderAt hl x1 x140 x141 x3 h111) y_L_holderAt tw1074 dL_law_1445 rfl (st := []) rfl (Nat.le_of_ble_eq_true rfl) (Nat.le_of_ble_eq_true rfl) (Nat.le_of_ble_eq_true rfl)) (fun x142 h191 => ?_)
      refine g_istore (pc := 1448) (lv' := [(5, .int x142), (0, .ref (e_ca E)), (1, .ref (e_z E + x1)), (2, .ref (e_z E + x2)), (3, .ref (e_z E + x3)), (4, .int x4)]) dL_law_1448 (Nat.le_of_ble_eq_true rfl) rfl ?_
      refine g_aload_n (pc := 1450) dL_law_1450 3 rfl ?_
      refine g_aload_n (pc := 1451) dL_law_1451 1 rfl ?_
      refine g_iload (pc := 1452) dL_law_1452 5 rfl ?_
      refine g_iconst (pc := 1454) dL_law_1454 ci_1 ?_
      refine g_iadd (pc := 1455) dL_law_1455 ?_
      refine g_sld (pc := 1456) dL_law_1456 (fun x143 => ?_)
      refine g_aload_n (pc := 1457) dL_law_1457 1 rfl ?_
      refine g_iload (pc := 1458) dL_law_1458 5 rfl ?_
      refine g_iconst (pc := 1460) dL_law_1460 ci_2 ?_
      refine g_iadd (pc := 1461) dL_law_1461 ?_
      refine g_sld (pc := 1462) dL_law_1462 (fun x144 => ?_)
      refine g_gS (fun hs => ?_)
      refine g_bRi (pc := 1463) (c_V cl12 hs (p_X12_holderAt hl x2 x143 x144 h191) y_X12_holderAt tw2032 dL_law_1463 rfl (st := []) rfl (Nat.le_of_ble_eq_true rfl) (Nat.le_of_ble_eq_true rfl) (Nat.le_of_ble_eq_true rfl)) (fun x145 h192 => ?_)
      refine g_istore (pc := 1466) (lv' := [(6, .int x145), (5, .int x142), (0, .ref (e_ca E)), (1, .ref (e_z E + x1)), (2, .ref (e_z E + x2)), (3, .ref (e_z E + x3)), (4, .int x4)]) dL_law_1466 (Nat.le_of_ble_eq_true rfl) rfl ?_
      refine g_aload_n (pc := 1468) dL_law_1468 4 rfl ?_
      refine g_gS (fun hs => ?_)
      refine g_bRi (pc := 1469) (c_V cl12 hs (p_X12_thrown hl x2 h192) y_X12_thrown tw1766 dL_law_1469 rfl (st := []) rfl (Nat.le_of_ble_eq_true rfl) (Nat.le_of_ble_eq_true rfl) (Nat.le_of_ble_eq_true rfl)) (fun x146 h193 => ?_)
      refine g_iload (pc := 1472) dL_law_1472 1 rfl ?_
      refine g_icmpeq (pc := 1474) (tgt := 1479) dL_law_1474 rfl ?_ ?_
      · refine g_iload (pc := 1479) dL_law_1479 1 rfl ?_
        refine g_join (fun k => ∀ (h194 : aH), J_L_law l E n0 m0 1496 [(0, .ref (e_ca E)), (1, .ref (e_z E + x1)), (2, .ref (e_z E + x2)), (3, .ref (e_z E + x3)), (4, .int x4)] [] h194 (k h194)) (fun h194 => ?_) (fun k1496 hk1496 => ?_)
        · refine g_goto (pc := 1496) (tgt := 3562) dL_law_1496 rfl ?_
          exact hk3562 h194
        refine g_ifne (pc := 1481) (tgt := 1496) dL_law_1481 rfl ?_ ?_
        · refine g_aload_n (pc := 1484) dL_law_1484 5 rfl ?_
          refine g_iconst (pc := 1485) dL_law_1485 ci_0 ?_
          refine g_lald (pc := 1486) dL_law_1486 (fun x147 => ?_)
          refine g_iload (pc := 1487) dL_law_1487 0 rfl ?_
          refine g_i2l (pc := 1489) dL_law_1489 ?_
          refine g_lcmp (pc := 1490) dL_law_1490 ?_
          refine g_ifeq (pc := 1491) (tgt := 1496) dL_law_1491 rfl ?_ ?_
          · refine g_lv [2, 3, 4, 5, 6] rfl ?_
            exact hk1496 h193
          · refine g_lv [] rfl ?_
            exact hk1494 h193
        · refine g_lv [2, 3, 4, 5, 6] rfl ?_
          exact hk1496 h193
      · refine g_lv [] rfl ?_
        exact hk1477 h193
    refine g_swI (fun e22 => ?_) (fun e22 => ?_)
    · refine g_swIn (pc := 40) (tgt := 1499) (off := 1459) dL_law_40 (by omega) (by omega) (by rw [e22]; rfl) rfl ?_
      refine g_aload_n (pc := 1499) dL_law_1499 1 rfl ?_
      refine g_aload_n (pc := 1500) dL_law_1500 0 rfl ?_
      refine g_iload (pc := 1501) dL_law_1501 4 rfl ?_
      refine g_iconst (pc := 1503) dL_law_1503 ci_1 ?_
      refine g_iadd (pc := 1504) dL_law_1504 ?_
      refine g_sld (pc := 1505) dL_law_1505 (fun x148 => ?_)
      refine g_aload_n (pc := 1506) dL_law_1506 0 rfl ?_
      refine g_iload (pc := 1507) dL_law_1507 4 rfl ?_
      refine g_iconst (pc := 1509) dL_law_1509 ci_2 ?_
      refine g_iadd (pc := 1510) dL_law_1510 ?_
      refine g_sld (pc := 1511) dL_law_1511 (fun x149 => ?_)
      refine g_aload_n (pc := 1512) dL_law_1512 3 rfl ?_
      refine g_bRi (pc := 1513) (c_SX (p_L_dutyMinutes hl x1 x148 x149 x3 h111) y_L_dutyMinutes tw1086 dL_law_1513 rfl (st := []) rfl (Nat.le_of_ble_eq_true rfl) (Nat.le_of_ble_eq_true rfl) (Nat.le_of_ble_eq_true rfl)) (fun x150 h195 => ?_)
      refine g_istore (pc := 1516) (lv' := [(5, .int x150), (0, .ref (e_ca E)), (1, .ref (e_z E + x1)), (2, .ref (e_z E + x2)), (3, .ref (e_z E + x3)), (4, .int x4)]) dL_law_1516 (Nat.le_of_ble_eq_true rfl) rfl ?_
      refine g_aload_n (pc := 1518) dL_law_1518 3 rfl ?_
      refine g_aload_n (pc := 1519) dL_law_1519 1 rfl ?_
      refine g_iload (pc := 1520) dL_law_1520 5 rfl ?_
      refine g_iconst (pc := 1522) dL_law_1522 ci_1 ?_
      refine g_iadd (pc := 1523) dL_law_1523 ?_
      refine g_sld (pc := 1524) dL_law_1524 (fun x151 => ?_)
      refine g_aload_n (pc := 1525) dL_law_1525 1 rfl ?_
      refine g_iload (pc := 1526) dL_law_1526 5 rfl ?_
      refine g_iconst (pc := 1528) dL_law_1528 ci_2 ?_
      refine g_iadd (pc := 1529) dL_law_1529 ?_
      refine g_sld (pc := 1530) dL_law_1530 (fun x152 => ?_)
      refine g_gS (fun hs => ?_)
      refine g_bRi (pc := 1531) (c_V cl12 hs (p_X12_dutyMinutes hl x2 x151 x152 h195) y_X12_dutyMinutes tw2041 dL_law_1531 rfl (st := []) rfl (Nat.le_of_ble_eq_true rfl) (Nat.le_of_ble_eq_true rfl) (Nat.le_of_ble_eq_true rfl)) (fun x153 h196 => ?_)
      refine g_istore (pc := 1534) (lv' := [(6, .int x153), (5, .int x150), (0, .ref (e_ca E)), (1, .ref (e_z E + x1)), (2, .ref (e_z E + x2)), (3, .ref (e_z E + x3)), (4, .int x4)]) dL_law_1534 (Nat.le_of_ble_eq_true rfl) rfl ?_
      refine g_aload_n (pc := 1536) dL_law_1536 4 rfl ?_
      refine g_gS (fun hs => ?_)
      refine g_bRi (pc := 1537) (c_V cl12 hs (p_X12_thrown hl x2 h196) y_X12_thrown tw1766 dL_law_1537 rfl (st := []) rfl (Nat.le_of_ble_eq_true rfl) (Nat.le_of_ble_eq_true rfl) (Nat.le_of_ble_eq_true rfl)) (fun x154 h197 => ?_)
      refine g_iload (pc := 1540) dL_law_1540 1 rfl ?_
      refine g_icmpeq (pc := 1542) (tgt := 1547) dL_law_1542 rfl ?_ ?_
      · refine g_iload (pc := 1547) dL_law_1547 1 rfl ?_
        refine g_join (fun k => ∀ (h198 : aH), J_L_law l E n0 m0 1564 [(0, .ref (e_ca E)), (1, .ref (e_z E + x1)), (2, .ref (e_z E + x2)), (3, .ref (e_z E + x3)), (4, .int x4)] [] h198 (k h198)) (fun h198 => ?_) (fun k1564 hk1564 => ?_)
        · refine g_goto (pc := 1564) (tgt := 3562) dL_law_1564 rfl ?_
          exact hk3562 h198
        refine g_ifne (pc := 1549) (tgt := 1564) dL_law_1549 rfl ?_ ?_
        · refine g_aload_n (pc := 1552) dL_law_1552 5 rfl ?_
          refine g_iconst (pc := 1553) dL_law_1553 ci_0 ?_
          refine g_lald (pc := 1554) dL_law_1554 (fun x155 => ?_)
          refine g_iload (pc := 1555) dL_law_1555 0 rfl ?_
          refine g_i2l (pc := 1557) dL_law_1557 ?_
          refine g_lcmp (pc := 1558) dL_law_1558 ?_
          refine g_ifeq (pc := 1559) (tgt := 1564) dL_law_1559 rfl ?_ ?_
          · refine g_lv [2, 3, 4, 5, 6] rfl ?_
            exact hk1564 h197
          · refine g_lv [] rfl ?_
            exact hk1562 h197
        · refine g_lv [2, 3, 4, 5, 6] rfl ?_
          exact hk1564 h197
      · refine g_lv [] rfl ?_
        exact hk1545 h197
    refine g_swI (fun e23 => ?_) (fun e23 => ?_)
    · refine g_swIn (pc := 40) (tgt := 1567) (off := 1527) dL_law_40 (by omega) (by omega) (by rw [e23]; rfl) rfl ?_
      refine g_aload_n (pc := 1567) dL_law_1567 1 rfl ?_
      refine g_aload_n (pc := 1568) dL_law_1568 0 rfl ?_
      refine g_iload (pc := 1569) dL_law_1569 4 rfl ?_
      refine g_iconst (pc := 1571) dL_law_1571 ci_1 ?_
      refine g_iadd (pc := 1572) dL_law_1572 ?_
      refine g_sld (pc := 1573) dL_law_1573 (fun x156 => ?_)
      refine g_aload_n (pc := 1574) dL_law_1574 0 rfl ?_
      refine g_iload (pc := 1575) dL_law_1575 4 rfl ?_
      refine g_iconst (pc := 1577) dL_law_1577 ci_2 ?_
      refine g_iadd (pc := 1578) dL_law_1578 ?_
      refine g_sld (pc := 1579) dL_law_1579 (fun x157 => ?_)
      refine g_aload_n (pc := 1580) dL_law_1580 0 rfl ?_
      refine g_iload (pc := 1581) dL_law_1581 4 rfl ?_
      refine g_iconst (pc := 1583) dL_law_1583 ci_3 ?_
      refine g_iadd (pc := 1584) dL_law_1584 ?_
      refine g_sld (pc := 1585) dL_law_1585 (fun x158 => ?_)
      refine g_aload_n (pc := 1586) dL_law_1586 3 rfl ?_
      refine g_bRi (pc := 1587) (c_SX (p_L_whyNotHandOn hl x1 x156 x157 x158 x3 h111) y_L_whyNotHandOn tw1100 dL_law_1587 rfl (st := []) rfl (Nat.le_of_ble_eq_true rfl) (Nat.le_of_ble_eq_true rfl) (Nat.le_of_ble_eq_true rfl)) (fun x159 h199 => ?_)
      refine g_istore (pc := 1590) (lv' := [(5, .int x159), (0, .ref (e_ca E)), (1, .ref (e_z E + x1)), (2, .ref (e_z E + x2)), (3, .ref (e_z E + x3)), (4, .int x4)]) dL_law_1590 (Nat.le_of_ble_eq_true rfl) rfl ?_
      refine g_aload_n (pc := 1592) dL_law_1592 3 rfl ?_
      refine g_aload_n (pc := 1593) dL_law_1593 1 rfl ?_
      refine g_iload (pc := 1594) dL_law_1594 5 rfl ?_
      refine g_iconst (pc := 1596) dL_law_1596 ci_1 ?_
      refine g_iadd (pc := 1597) dL_law_1597 ?_
      refine g_sld (pc := 1598) dL_law_1598 (fun x160 => ?_)
      refine g_aload_n (pc := 1599) dL_law_1599 1 rfl ?_
      refine g_iload (pc := 1600) dL_law_1600 5 rfl ?_
      refine g_iconst (pc := 1602) dL_law_1602 ci_2 ?_
      refine g_iadd (pc := 1603) dL_law_1603 ?_
      refine g_sld (pc := 1604) dL_law_1604 (fun x161 => ?_)
      refine g_aload_n (pc := 1605) dL_law_1605 1 rfl ?_
      refine g_iload (pc := 1606) dL_law_1606 5 rfl ?_
      refine g_iconst (pc := 1608) dL_law_1608 ci_3 ?_
      refine g_iadd (pc := 1609) dL_law_1609 ?_
      refine g_sld (pc := 1610) dL_law_1610 (fun x162 => ?_)
      refine g_gS (fun hs => ?_)
      refine g_bRi (pc := 1611) (c_V cl12 hs (p_X12_whyNotHandOn hl x2 x160 x161 x162 h199) y_X12_whyNotHandOn tw2045 dL_law_1611 rfl (st := []) rfl (Nat.le_of_ble_eq_true rfl) (Nat.le_of_ble_eq_true rfl) (Nat.le_of_ble_eq_true rfl)) (fun x163 h200 => ?_)
      refine g_istore (pc := 1614) (lv' := [(6, .int x163), (5, .int x159), (0, .ref (e_ca E)), (1, .ref (e_z E + x1)), (2, .ref (e_z E + x2)), (3, .ref (e_z E + x3)), (4, .int x4)]) dL_law_1614 (Nat.le_of_ble_eq_true rfl) rfl ?_
      refine g_aload_n (pc := 1616) dL_law_1616 4 rfl ?_
      refine g_gS (fun hs => ?_)
      refine g_bRi (pc := 1617) (c_V cl12 hs (p_X12_thrown hl x2 h200) y_X12_thrown tw1766 dL_law_1617 rfl (st := []) rfl (Nat.le_of_ble_eq_true rfl) (Nat.le_of_ble_eq_true rfl) (Nat.le_of_ble_eq_true rfl)) (fun x164 h201 => ?_)
      refine g_iload (pc := 1620) dL_law_1620 1 rfl ?_
      refine g_icmpeq (pc := 1622) (tgt := 1627) dL_law_1622 rfl ?_ ?_
      · refine g_iload (pc := 1627) dL_law_1627 1 rfl ?_
        refine g_join (fun k => ∀ (h202 : aH), J_L_law l E n0 m0 1644 [(0, .ref (e_ca E)), (1, .ref (e_z E + x1)), (2, .ref (e_z E + x2)), (3, .ref (e_z E + x3)), (4, .int x4)] [] h202 (k h202)) (fun h202 => ?_) (fun k1644 hk1644 => ?_)
        · refine g_goto (pc := 1644) (tgt := 3562) dL_law_1644 rfl ?_
          exact hk3562 h202
        refine g_ifne (pc := 1629) (tgt := 1644) dL_law_1629 rfl ?_ ?_
        · refine g_aload_n (pc := 1632) dL_law_1632 5 rfl ?_
          refine g_iconst (pc := 1633) dL_law_1633 ci_0 ?_
          refine g_lald (pc := 1634) dL_law_1634 (fun x165 => ?_)
          refine g_iload (pc := 1635) dL_law_1635 0 rfl ?_
          refine g_i2l (pc := 1637) dL_law_1637 ?_
          refine g_lcmp (pc := 1638) dL_law_1638 ?_
          refine g_ifeq (pc := 1639) (tgt := 1644) dL_law_1639 rfl ?_ ?_
          · refine g_lv [2, 3, 4, 5, 6] rfl ?_
            exact hk1644 h201
          · refine g_lv [] rfl ?_
            exact hk1642 h201
        · refine g_lv [2, 3, 4, 5, 6] rfl ?_
          exact hk1644 h201
      · refine g_lv [] rfl ?_
        exact hk1625 h201
    refine g_swI (fun e24 => ?_) (fun e24 => ?_)
    · refine g_swIn (pc := 40) (tgt := 1647) (off := 1607) dL_law_40 (by omega) (by omega) (by rw [e24]; rfl) rfl ?_
      refine g_aload_n (pc := 1647) dL_law_1647 1 rfl ?_
      refine g_aload_n (pc := 1648) dL_law_1648 0 rfl ?_
      refine g_iload (pc := 1649) dL_law_1649 4 rfl ?_
      refine g_iconst (pc := 1651) dL_law_1651 ci_1 ?_
      refine g_iadd (pc := 1652) dL_law_1652 ?_
      refine g_sld (pc := 1653) dL_law_1653 (fun x166 => ?_)
      refine g_aload_n (pc := 1654) dL_law_1654 0 rfl ?_
      refine g_iload (pc := 1655) dL_law_1655 4 rfl ?_
      refine g_iconst (pc := 1657) dL_law_1657 ci_2 ?_
      refine g_iadd (pc := 1658) dL_law_1658 ?_
      refine g_sld (pc := 1659) dL_law_1659 (fun x167 => ?_)
      refine g_aload_n (pc := 1660) dL_law_1660 3 rfl ?_
      refine g_bRi (pc := 1661) (c_SX (p_L_steps hl x1 x166 x167 x3 h111) y_L_steps tw1124 dL_law_1661 rfl (st := []) rfl (Nat.le_of_ble_eq_true rfl) (Nat.le_of_ble_eq_true rfl) (Nat.le_of_ble_eq_true rfl)) (fun x168 h203 => ?_)
      refine g_istore (pc := 1664) (lv' := [(5, .int x168), (0, .ref (e_ca E)), (1, .ref (e_z E + x1)), (2, .ref (e_z E + x2)), (3, .ref (e_z E + x3)), (4, .int x4)]) dL_law_1664 (Nat.le_of_ble_eq_true rfl) rfl ?_
      refine g_aload_n (pc := 1666) dL_law_1666 3 rfl ?_
      refine g_aload_n (pc := 1667) dL_law_1667 1 rfl ?_
      refine g_iload (pc := 1668) dL_law_1668 5 rfl ?_
      refine g_iconst (pc := 1670) dL_law_1670 ci_1 ?_
      refine g_iadd (pc := 1671) dL_law_1671 ?_
      refine g_sld (pc := 1672) dL_law_1672 (fun x169 => ?_)
      refine g_aload_n (pc := 1673) dL_law_1673 1 rfl ?_
      refine g_iload (pc := 1674) dL_law_1674 5 rfl ?_
      refine g_iconst (pc := 1676) dL_law_1676 ci_2 ?_
      refine g_iadd (pc := 1677) dL_law_1677 ?_
      refine g_sld (pc := 1678) dL_law_1678 (fun x170 => ?_)
      refine g_gS (fun hs => ?_)
      refine g_bRi (pc := 1679) (c_V cl12 hs (p_X12_steps hl x2 x169 x170 h203) y_X12_steps tw2057 dL_law_1679 rfl (st := []) rfl (Nat.le_of_ble_eq_true rfl) (Nat.le_of_ble_eq_true rfl) (Nat.le_of_ble_eq_true rfl)) (fun x171 h204 => ?_)
      refine g_istore (pc := 1682) (lv' := [(6, .int x171), (5, .int x168), (0, .ref (e_ca E)), (1, .ref (e_z E + x1)), (2, .ref (e_z E + x2)), (3, .ref (e_z E + x3)), (4, .int x4)]) dL_law_1682 (Nat.le_of_ble_eq_true rfl) rfl ?_
      refine g_aload_n (pc := 1684) dL_law_1684 4 rfl ?_
      refine g_gS (fun hs => ?_)
      refine g_bRi (pc := 1685) (c_V cl12 hs (p_X12_thrown hl x2 h204) y_X12_thrown tw1766 dL_law_1685 rfl (st := []) rfl (Nat.le_of_ble_eq_true rfl) (Nat.le_of_ble_eq_true rfl) (Nat.le_of_ble_eq_true rfl)) (fun x172 h205 => ?_)
      refine g_iload (pc := 1688) dL_law_1688 1 rfl ?_
      refine g_icmpeq (pc := 1690) (tgt := 1695) dL_law_1690 rfl ?_ ?_
      · refine g_iload (pc := 1695) dL_law_1695 1 rfl ?_
        refine g_join (fun k => ∀ (h206 : aH), J_L_law l E n0 m0 1712 [(0, .ref (e_ca E)), (1, .ref (e_z E + x1)), (2, .ref (e_z E + x2)), (3, .ref (e_z E + x3)), (4, .int x4)] [] h206 (k h206)) (fun h206 => ?_) (fun k1712 hk1712 => ?_)
        · refine g_goto (pc := 1712) (tgt := 3562) dL_law_1712 rfl ?_
          exact hk3562 h206
        refine g_ifne (pc := 1697) (tgt := 1712) dL_law_1697 rfl ?_ ?_
        · refine g_aload_n (pc := 1700) dL_law_1700 5 rfl ?_
          refine g_iconst (pc := 1701) dL_law_1701 ci_0 ?_
          refine g_lald (pc := 1702) dL_law_1702 (fun x173 => ?_)
          refine g_iload (pc := 1703) dL_law_1703 0 rfl ?_
          refine g_i2l (pc := 1705) dL_law_1705 ?_
          refine g_lcmp (pc := 1706) dL_law_1706 ?_
          refine g_ifeq (pc := 1707) (tgt := 1712) dL_law_1707 rfl ?_ ?_
          · refine g_lv [2, 3, 4, 5, 6] rfl ?_
            exact hk1712 h205
          · refine g_lv [] rfl ?_
            exact hk1710 h205
        · refine g_lv [2, 3, 4, 5, 6] rfl ?_
          exact hk1712 h205
      · refine g_lv [] rfl ?_
        exact hk1693 h205
    refine g_swI (fun e25 => ?_) (fun e25 => ?_)
    · refine g_swIn (pc := 40) (tgt := 1715) (off := 1675) dL_law_40 (by omega) (by omega) (by rw [e25]; rfl) rfl ?_
      refine g_aload_n (pc := 1715) dL_law_1715 1 rfl ?_
      refine g_aload_n (pc := 1716) dL_law_1716 0 rfl ?_
      refine g_iload (pc := 1717) dL_law_1717 4 rfl ?_
      refine g_iconst (pc := 1719) dL_law_1719 ci_1 ?_
      refine g_iadd (pc := 1720) dL_law_1720 ?_
      refine g_sld (pc := 1721) dL_law_1721 (fun x174 => ?_)
      refine g_aload_n (pc := 1722) dL_law_1722 3 rfl ?_
      refine g_bRi (pc := 1723) (c_SX (p_L_returnsAt hl x1 x174 x3 h111) y_L_returnsAt tw1132 dL_law_1723 rfl (st := []) rfl (Nat.le_of_ble_eq_true rfl) (Nat.le_of_ble_eq_true rfl) (Nat.le_of_ble_eq_true rfl)) (fun x175 h207 => ?_)
      refine g_istore (pc := 1726) (lv' := [(5, .int x175), (0, .ref (e_ca E)), (1, .ref (e_z E + x1)), (2, .ref (e_z E + x2)), (3, .ref (e_z E + x3)), (4, .int x4)]) dL_law_1726 (Nat.le_of_ble_eq_true rfl) rfl ?_
      refine g_aload_n (pc := 1728) dL_law_1728 3 rfl ?_
      refine g_aload_n (pc := 1729) dL_law_1729 1 rfl ?_
      refine g_iload (pc := 1730) dL_law_1730 5 rfl ?_
      refine g_iconst (pc := 1732) dL_law_1732 ci_1 ?_
      refine g_iadd (pc := 1733) dL_law_1733 ?_
      refine g_sld (pc := 1734) dL_law_1734 (fun x176 => ?_)
      refine g_gS (fun hs => ?_)
      refine g_bRi (pc := 1735) (c_V cl12 hs (p_X12_returnsAt hl x2 x176 h207) y_X12_returnsAt tw2164 dL_law_1735 rfl (st := []) rfl (Nat.le_of_ble_eq_true rfl) (Nat.le_of_ble_eq_true rfl) (Nat.le_of_ble_eq_true rfl)) (fun x177 h208 => ?_)
      refine g_istore (pc := 1738) (lv' := [(6, .int x177), (5, .int x175), (0, .ref (e_ca E)), (1, .ref (e_z E + x1)), (2, .ref (e_z E + x2)), (3, .ref (e_z E + x3)), (4, .int x4)]) dL_law_1738 (Nat.le_of_ble_eq_true rfl) rfl ?_
      refine g_aload_n (pc := 1740) dL_law_1740 4 rfl ?_
      refine g_gS (fun hs => ?_)
      refine g_bRi (pc := 1741) (c_V cl12 hs (p_X12_thrown hl x2 h208) y_X12_thrown tw1766 dL_law_1741 rfl (st := []) rfl (Nat.le_of_ble_eq_true rfl) (Nat.le_of_ble_eq_true rfl) (Nat.le_of_ble_eq_true rfl)) (fun x178 h209 => ?_)
      refine g_iload (pc := 1744) dL_law_1744 1 rfl ?_
      refine g_icmpeq (pc := 1746) (tgt := 1751) dL_law_1746 rfl ?_ ?_
      · refine g_iload (pc := 1751) dL_law_1751 1 rfl ?_
        refine g_join (fun k => ∀ (h210 : aH), J_L_law l E n0 m0 1768 [(0, .ref (e_ca E)), (1, .ref (e_z E + x1)), (2, .ref (e_z E + x2)), (3, .ref (e_z E + x3)), (4, .int x4)] [] h210 (k h210)) (fun h210 => ?_) (fun k1768 hk1768 => ?_)
        · refine g_goto (pc := 1768) (tgt := 3562) dL_law_1768 rfl ?_
          exact hk3562 h210
        refine g_ifne (pc := 1753) (tgt := 1768) dL_law_1753 rfl ?_ ?_
        · refine g_aload_n (pc := 1756) dL_law_1756 5 rfl ?_
          refine g_iconst (pc := 1757) dL_law_1757 ci_0 ?_
          refine g_lald (pc := 1758) dL_law_1758 (fun x179 => ?_)
          refine g_iload (pc := 1759) dL_law_1759 0 rfl ?_
          refine g_i2l (pc := 1761) dL_law_1761 ?_
          refine g_lcmp (pc := 1762) dL_law_1762 ?_
          refine g_ifeq (pc := 1763) (tgt := 1768) dL_law_1763 rfl ?_ ?_
          · refine g_lv [2, 3, 4, 5, 6] rfl ?_
            exact hk1768 h209
          · refine g_lv [] rfl ?_
            exact hk1766 h209
        · refine g_lv [2, 3, 4, 5, 6] rfl ?_
          exact hk1768 h209
      · refine g_lv [] rfl ?_
        exact hk1749 h209
    refine g_swI (fun e26 => ?_) (fun e26 => ?_)
    · refine g_swIn (pc := 40) (tgt := 1771) (off := 1731) dL_law_40 (by omega) (by omega) (by rw [e26]; rfl) rfl ?_
      refine g_aload_n (pc := 1771) dL_law_1771 1 rfl ?_
      refine g_aload_n (pc := 1772) dL_law_1772 0 rfl ?_
      refine g_iload (pc := 1773) dL_law_1773 4 rfl ?_
      refine g_iconst (pc := 1775) dL_law_1775 ci_1 ?_
      refine g_iadd (pc := 1776) dL_law_1776 ?_
      refine g_sld (pc := 1777) dL_law_1777 (fun x180 => ?_)
      refine g_aload_n (pc := 1778) dL_law_1778 3 rfl ?_
      refine g_bRi (pc := 1779) (c_SX (p_L_cost hl x1 x180 x3 h111) y_L_cost tw1148 dL_law_1779 rfl (st := []) rfl (Nat.le_of_ble_eq_true rfl) (Nat.le_of_ble_eq_true rfl) (Nat.le_of_ble_eq_true rfl)) (fun x181 h211 => ?_)
      refine g_istore (pc := 1782) (lv' := [(5, .int x181), (0, .ref (e_ca E)), (1, .ref (e_z E + x1)), (2, .ref (e_z E + x2)), (3, .ref (e_z E + x3)), (4, .int x4)]) dL_law_1782 (Nat.le_of_ble_eq_true rfl) rfl ?_
      refine g_aload_n (pc := 1784) dL_law_1784 3 rfl ?_
      refine g_aload_n (pc := 1785) dL_law_1785 1 rfl ?_
      refine g_iload (pc := 1786) dL_law_1786 5 rfl ?_
      refine g_iconst (pc := 1788) dL_law_1788 ci_1 ?_
      refine g_iadd (pc := 1789) dL_law_1789 ?_
      refine g_sld (pc := 1790) dL_law_1790 (fun x182 => ?_)
      refine g_gS (fun hs => ?_)
      refine g_bRi (pc := 1791) (c_V cl12 hs (p_X12_cost hl x2 x182 h211) y_X12_cost tw2168 dL_law_1791 rfl (st := []) rfl (Nat.le_of_ble_eq_true rfl) (Nat.le_of_ble_eq_true rfl) (Nat.le_of_ble_eq_true rfl)) (fun x183 h212 => ?_)
      refine g_istore (pc := 1794) (lv' := [(6, .int x183), (5, .int x181), (0, .ref (e_ca E)), (1, .ref (e_z E + x1)), (2, .ref (e_z E + x2)), (3, .ref (e_z E + x3)), (4, .int x4)]) dL_law_1794 (Nat.le_of_ble_eq_true rfl) rfl ?_
      refine g_aload_n (pc := 1796) dL_law_1796 4 rfl ?_
      refine g_gS (fun hs => ?_)
      refine g_bRi (pc := 1797) (c_V cl12 hs (p_X12_thrown hl x2 h212) y_X12_thrown tw1766 dL_law_1797 rfl (st := []) rfl (Nat.le_of_ble_eq_true rfl) (Nat.le_of_ble_eq_true rfl) (Nat.le_of_ble_eq_true rfl)) (fun x184 h213 => ?_)
      refine g_iload (pc := 1800) dL_law_1800 1 rfl ?_
      refine g_icmpeq (pc := 1802) (tgt := 1807) dL_law_1802 rfl ?_ ?_
      · refine g_iload (pc := 1807) dL_law_1807 1 rfl ?_
        refine g_join (fun k => ∀ (h214 : aH), J_L_law l E n0 m0 1824 [(0, .ref (e_ca E)), (1, .ref (e_z E + x1)), (2, .ref (e_z E + x2)), (3, .ref (e_z E + x3)), (4, .int x4)] [] h214 (k h214)) (fun h214 => ?_) (fun k1824 hk1824 => ?_)
        · refine g_goto (pc := 1824) (tgt := 3562) dL_law_1824 rfl ?_
          exact hk3562 h214
        refine g_ifne (pc := 1809) (tgt := 1824) dL_law_1809 rfl ?_ ?_
        · refine g_aload_n (pc := 1812) dL_law_1812 5 rfl ?_
          refine g_iconst (pc := 1813) dL_law_1813 ci_0 ?_
          refine g_lald (pc := 1814) dL_law_1814 (fun x185 => ?_)
          refine g_iload (pc := 1815) dL_law_1815 0 rfl ?_
          refine g_i2l (pc := 1817) dL_law_1817 ?_
          refine g_lcmp (pc := 1818) dL_law_1818 ?_
          refine g_ifeq (pc := 1819) (tgt := 1824) dL_law_1819 rfl ?_ ?_
          · refine g_lv [2, 3, 4, 5, 6] rfl ?_
            exact hk1824 h213
          · refine g_lv [] rfl ?_
            exact hk1822 h213
        · refine g_lv [2, 3, 4, 5, 6] rfl ?_
          exact hk1824 h213
      · refine g_lv [] rfl ?_
        exact hk1805 h213
    refine g_swI (fun e27 => ?_) (fun e27 => ?_)
    · refine g_swIn (pc := 40) (tgt := 1827) (off := 1787) dL_law_40 (by omega) (by omega) (by rw [e27]; rfl) rfl ?_
      refine g_aload_n (pc := 1827) dL_law_1827 1 rfl ?_
      refine g_aload_n (pc := 1828) dL_law_1828 0 rfl ?_
      refine g_iload (pc := 1829) dL_law_1829 4 rfl ?_
      refine g_iconst (pc := 1831) dL_law_1831 ci_1 ?_
      refine g_iadd (pc := 1832) dL_law_1832 ?_
      refine g_sld (pc := 1833) dL_law_1833 (fun x186 => ?_)
      refine g_aload_n (pc := 1834) dL_law_1834 3 rfl ?_
      refine g_bRi (pc := 1835) (c_SX (p_L_isAnswered hl x1 x186 x3 h111) y_L_isAnswered tw1160 dL_law_1835 rfl (st := []) rfl (Nat.le_of_ble_eq_true rfl) (Nat.le_of_ble_eq_true rfl) (Nat.le_of_ble_eq_true rfl)) (fun x187 h215 => ?_)
      refine g_istore (pc := 1838) (lv' := [(5, .int x187), (0, .ref (e_ca E)), (1, .ref (e_z E + x1)), (2, .ref (e_z E + x2)), (3, .ref (e_z E + x3)), (4, .int x4)]) dL_law_1838 (Nat.le_of_ble_eq_true rfl) rfl ?_
      refine g_aload_n (pc := 1840) dL_law_1840 3 rfl ?_
      refine g_aload_n (pc := 1841) dL_law_1841 1 rfl ?_
      refine g_iload (pc := 1842) dL_law_1842 5 rfl ?_
      refine g_iconst (pc := 1844) dL_law_1844 ci_1 ?_
      refine g_iadd (pc := 1845) dL_law_1845 ?_
      refine g_sld (pc := 1846) dL_law_1846 (fun x188 => ?_)
      refine g_gS (fun hs => ?_)
      refine g_bRi (pc := 1847) (c_V cl12 hs (p_X12_isAnswered hl x2 x188 h215) y_X12_isAnswered tw2180 dL_law_1847 rfl (st := []) rfl (Nat.le_of_ble_eq_true rfl) (Nat.le_of_ble_eq_true rfl) (Nat.le_of_ble_eq_true rfl)) (fun x189 h216 => ?_)
      refine g_istore (pc := 1850) (lv' := [(6, .int x189), (5, .int x187), (0, .ref (e_ca E)), (1, .ref (e_z E + x1)), (2, .ref (e_z E + x2)), (3, .ref (e_z E + x3)), (4, .int x4)]) dL_law_1850 (Nat.le_of_ble_eq_true rfl) rfl ?_
      refine g_aload_n (pc := 1852) dL_law_1852 4 rfl ?_
      refine g_gS (fun hs => ?_)
      refine g_bRi (pc := 1853) (c_V cl12 hs (p_X12_thrown hl x2 h216) y_X12_thrown tw1766 dL_law_1853 rfl (st := []) rfl (Nat.le_of_ble_eq_true rfl) (Nat.le_of_ble_eq_true rfl) (Nat.le_of_ble_eq_true rfl)) (fun x190 h217 => ?_)
      refine g_iload (pc := 1856) dL_law_1856 1 rfl ?_
      refine g_icmpeq (pc := 1858) (tgt := 1863) dL_law_1858 rfl ?_ ?_
      · refine g_iload (pc := 1863) dL_law_1863 1 rfl ?_
        refine g_join (fun k => ∀ (h218 : aH), J_L_law l E n0 m0 1887 [(0, .ref (e_ca E)), (1, .ref (e_z E + x1)), (2, .ref (e_z E + x2)), (3, .ref (e_z E + x3)), (4, .int x4)] [] h218 (k h218)) (fun h218 => ?_) (fun k1887 hk1887 => ?_)
        · refine g_goto (pc := 1887) (tgt := 3562) dL_law_1887 rfl ?_
          exact hk3562 h218
        refine g_ifne (pc := 1865) (tgt := 1887) dL_law_1865 rfl ?_ ?_
        · refine g_aload_n (pc := 1868) dL_law_1868 5 rfl ?_
          refine g_iconst (pc := 1869) dL_law_1869 ci_0 ?_
          refine g_lald (pc := 1870) dL_law_1870 (fun x191 => ?_)
          refine g_iload (pc := 1871) dL_law_1871 0 rfl ?_
          refine g_join (fun k => ∀ (x192 : Int64) (h219 : aH), J_L_law l E n0 m0 1881 [(0, .ref (e_ca E)), (1, .ref (e_z E + x1)), (2, .ref (e_z E + x2)), (3, .ref (e_z E + x3)), (4, .int x4)] [.long x192, .long x191] h219 (k x192 h219)) (fun x192 h219 => ?_) (fun k1881 hk1881 => ?_)
          · refine g_lcmp (pc := 1881) dL_law_1881 ?_
            refine g_ifeq (pc := 1882) (tgt := 1887) dL_law_1882 rfl ?_ ?_
            · exact hk1887 h219
            · refine g_lv [] rfl ?_
              exact hk1885 h219
          refine g_ifeq (pc := 1873) (tgt := 1880) dL_law_1873 rfl ?_ ?_
          · refine g_lconst (pc := 1880) dL_law_1880 cl_0 ?_
            refine g_lv [2, 3, 4, 5, 6] rfl ?_
            exact hk1881 (0 : Int64) h217
          · refine g_lconst (pc := 1876) dL_law_1876 cl_1 ?_
            refine g_goto (pc := 1877) (tgt := 1881) dL_law_1877 rfl ?_
            refine g_lv [2, 3, 4, 5, 6] rfl ?_
            exact hk1881 (1 : Int64) h217
        · refine g_lv [2, 3, 4, 5, 6] rfl ?_
          exact hk1887 h217
      · refine g_lv [] rfl ?_
        exact hk1861 h217
    refine g_swI (fun e28 => ?_) (fun e28 => ?_)
    · refine g_swIn (pc := 40) (tgt := 1890) (off := 1850) dL_law_40 (by omega) (by omega) (by rw [e28]; rfl) rfl ?_
      refine g_aload_n (pc := 1890) dL_law_1890 1 rfl ?_
      refine g_aload_n (pc := 1891) dL_law_1891 0 rfl ?_
      refine g_iload (pc := 1892) dL_law_1892 4 rfl ?_
      refine g_iconst (pc := 1894) dL_law_1894 ci_1 ?_
      refine g_iadd (pc := 1895) dL_law_1895 ?_
      refine g_sld (pc := 1896) dL_law_1896 (fun x193 => ?_)
      refine g_aload_n (pc := 1897) dL_law_1897 3 rfl ?_
      refine g_bRi (pc := 1898) (c_SX (p_L_came hl x1 x193 x3 h111) y_L_came tw1168 dL_law_1898 rfl (st := []) rfl (Nat.le_of_ble_eq_true rfl) (Nat.le_of_ble_eq_true rfl) (Nat.le_of_ble_eq_true rfl)) (fun x194 h220 => ?_)
      refine g_istore (pc := 1901) (lv' := [(5, .int x194), (0, .ref (e_ca E)), (1, .ref (e_z E + x1)), (2, .ref (e_z E + x2)), (3, .ref (e_z E + x3)), (4, .int x4)]) dL_law_1901 (Nat.le_of_ble_eq_true rfl) rfl ?_
      refine g_aload_n (pc := 1903) dL_law_1903 3 rfl ?_
      refine g_aload_n (pc := 1904) dL_law_1904 1 rfl ?_
      refine g_iload (pc := 1905) dL_law_1905 5 rfl ?_
      refine g_iconst (pc := 1907) dL_law_1907 ci_1 ?_
      refine g_iadd (pc := 1908) dL_law_1908 ?_
      refine g_sld (pc := 1909) dL_law_1909 (fun x195 => ?_)
      refine g_gS (fun hs => ?_)
      refine g_bRi (pc := 1910) (c_V cl12 hs (p_X12_came hl x2 x195 h220) y_X12_came tw2184 dL_law_1910 rfl (st := []) rfl (Nat.le_of_ble_eq_true rfl) (Nat.le_of_ble_eq_true rfl) (Nat.le_of_ble_eq_true rfl)) (fun x196 h221 => ?_)
      refine g_istore (pc := 1913) (lv' := [(6, .int x196), (5, .int x194), (0, .ref (e_ca E)), (1, .ref (e_z E + x1)), (2, .ref (e_z E + x2)), (3, .ref (e_z E + x3)), (4, .int x4)]) dL_law_1913 (Nat.le_of_ble_eq_true rfl) rfl ?_
      refine g_aload_n (pc := 1915) dL_law_1915 4 rfl ?_
      refine g_gS (fun hs => ?_)
      refine g_bRi (pc := 1916) (c_V cl12 hs (p_X12_thrown hl x2 h221) y_X12_thrown tw1766 dL_law_1916 rfl (st := []) rfl (Nat.le_of_ble_eq_true rfl) (Nat.le_of_ble_eq_true rfl) (Nat.le_of_ble_eq_true rfl)) (fun x197 h222 => ?_)
      refine g_iload (pc := 1919) dL_law_1919 1 rfl ?_
      refine g_icmpeq (pc := 1921) (tgt := 1926) dL_law_1921 rfl ?_ ?_
      · refine g_iload (pc := 1926) dL_law_1926 1 rfl ?_
        refine g_join (fun k => ∀ (h223 : aH), J_L_law l E n0 m0 1943 [(0, .ref (e_ca E)), (1, .ref (e_z E + x1)), (2, .ref (e_z E + x2)), (3, .ref (e_z E + x3)), (4, .int x4)] [] h223 (k h223)) (fun h223 => ?_) (fun k1943 hk1943 => ?_)
        · refine g_goto (pc := 1943) (tgt := 3562) dL_law_1943 rfl ?_
          exact hk3562 h223
        refine g_ifne (pc := 1928) (tgt := 1943) dL_law_1928 rfl ?_ ?_
        · refine g_aload_n (pc := 1931) dL_law_1931 5 rfl ?_
          refine g_iconst (pc := 1932) dL_law_1932 ci_0 ?_
          refine g_lald (pc := 1933) dL_law_1933 (fun x198 => ?_)
          refine g_iload (pc := 1934) dL_law_1934 0 rfl ?_
          refine g_i2l (pc := 1936) dL_law_1936 ?_
          refine g_lcmp (pc := 1937) dL_law_1937 ?_
          refine g_ifeq (pc := 1938) (tgt := 1943) dL_law_1938 rfl ?_ ?_
          · refine g_lv [2, 3, 4, 5, 6] rfl ?_
            exact hk1943 h222
          · refine g_lv [] rfl ?_
            exact hk1941 h222
        · refine g_lv [2, 3, 4, 5, 6] rfl ?_
          exact hk1943 h222
      · refine g_lv [] rfl ?_
        exact hk1924 h222
    refine g_swI (fun e29 => ?_) (fun e29 => ?_)
    · refine g_swIn (pc := 40) (tgt := 1946) (off := 1906) dL_law_40 (by omega) (by omega) (by rw [e29]; rfl) rfl ?_
      refine g_aload_n (pc := 1946) dL_law_1946 1 rfl ?_
      refine g_aload_n (pc := 1947) dL_law_1947 0 rfl ?_
      refine g_iload (pc := 1948) dL_law_1948 4 rfl ?_
      refine g_iconst (pc := 1950) dL_law_1950 ci_1 ?_
      refine g_iadd (pc := 1951) dL_law_1951 ?_
      refine g_sld (pc := 1952) dL_law_1952 (fun x199 => ?_)
      refine g_aload_n (pc := 1953) dL_law_1953 3 rfl ?_
      refine g_bRi (pc := 1954) (c_SX (p_L_left hl x1 x199 x3 h111) y_L_left tw1175 dL_law_1954 rfl (st := []) rfl (Nat.le_of_ble_eq_true rfl) (Nat.le_of_ble_eq_true rfl) (Nat.le_of_ble_eq_true rfl)) (fun x200 h224 => ?_)
      refine g_istore (pc := 1957) (lv' := [(5, .int x200), (0, .ref (e_ca E)), (1, .ref (e_z E + x1)), (2, .ref (e_z E + x2)), (3, .ref (e_z E + x3)), (4, .int x4)]) dL_law_1957 (Nat.le_of_ble_eq_true rfl) rfl ?_
      refine g_aload_n (pc := 1959) dL_law_1959 3 rfl ?_
      refine g_aload_n (pc := 1960) dL_law_1960 1 rfl ?_
      refine g_iload (pc := 1961) dL_law_1961 5 rfl ?_
      refine g_iconst (pc := 1963) dL_law_1963 ci_1 ?_
      refine g_iadd (pc := 1964) dL_law_1964 ?_
      refine g_sld (pc := 1965) dL_law_1965 (fun x201 => ?_)
      refine g_gS (fun hs => ?_)
      refine g_bRi (pc := 1966) (c_V cl12 hs (p_X12_left hl x2 x201 h224) y_X12_left tw2188 dL_law_1966 rfl (st := []) rfl (Nat.le_of_ble_eq_true rfl) (Nat.le_of_ble_eq_true rfl) (Nat.le_of_ble_eq_true rfl)) (fun x202 h225 => ?_)
      refine g_istore (pc := 1969) (lv' := [(6, .int x202), (5, .int x200), (0, .ref (e_ca E)), (1, .ref (e_z E + x1)), (2, .ref (e_z E + x2)), (3, .ref (e_z E + x3)), (4, .int x4)]) dL_law_1969 (Nat.le_of_ble_eq_true rfl) rfl ?_
      refine g_aload_n (pc := 1971) dL_law_1971 4 rfl ?_
      refine g_gS (fun hs => ?_)
      refine g_bRi (pc := 1972) (c_V cl12 hs (p_X12_thrown hl x2 h225) y_X12_thrown tw1766 dL_law_1972 rfl (st := []) rfl (Nat.le_of_ble_eq_true rfl) (Nat.le_of_ble_eq_true rfl) (Nat.le_of_ble_eq_true rfl)) (fun x203 h226 => ?_)
      refine g_iload (pc := 1975) dL_law_1975 1 rfl ?_
      refine g_icmpeq (pc := 1977) (tgt := 1982) dL_law_1977 rfl ?_ ?_
      · refine g_iload (pc := 1982) dL_law_1982 1 rfl ?_
        refine g_join (fun k => ∀ (h227 : aH), J_L_law l E n0 m0 1999 [(0, .ref (e_ca E)), (1, .ref (e_z E + x1)), (2, .ref (e_z E + x2)), (3, .ref (e_z E + x3)), (4, .int x4)] [] h227 (k h227)) (fun h227 => ?_) (fun k1999 hk1999 => ?_)
        · refine g_goto (pc := 1999) (tgt := 3562) dL_law_1999 rfl ?_
          exact hk3562 h227
        refine g_ifne (pc := 1984) (tgt := 1999) dL_law_1984 rfl ?_ ?_
        · refine g_aload_n (pc := 1987) dL_law_1987 5 rfl ?_
          refine g_iconst (pc := 1988) dL_law_1988 ci_0 ?_
          refine g_lald (pc := 1989) dL_law_1989 (fun x204 => ?_)
          refine g_iload (pc := 1990) dL_law_1990 0 rfl ?_
          refine g_i2l (pc := 1992) dL_law_1992 ?_
          refine g_lcmp (pc := 1993) dL_law_1993 ?_
          refine g_ifeq (pc := 1994) (tgt := 1999) dL_law_1994 rfl ?_ ?_
          · refine g_lv [2, 3, 4, 5, 6] rfl ?_
            exact hk1999 h226
          · refine g_lv [] rfl ?_
            exact hk1997 h226
        · refine g_lv [2, 3, 4, 5, 6] rfl ?_
          exact hk1999 h226
      · refine g_lv [] rfl ?_
        exact hk1980 h226
    refine g_swI (fun e30 => ?_) (fun e30 => ?_)
    · refine g_swIn (pc := 40) (tgt := 2002) (off := 1962) dL_law_40 (by omega) (by omega) (by rw [e30]; rfl) rfl ?_
      refine g_aload_n (pc := 2002) dL_law_2002 1 rfl ?_
      refine g_aload_n (pc := 2003) dL_law_2003 0 rfl ?_
      refine g_iload (pc := 2004) dL_law_2004 4 rfl ?_
      refine g_iconst (pc := 2006) dL_law_2006 ci_1 ?_
      refine g_iadd (pc := 2007) dL_law_2007 ?_
      refine g_sld (pc := 2008) dL_law_2008 (fun x205 => ?_)
      refine g_aload_n (pc := 2009) dL_law_2009 0 rfl ?_
      refine g_iload (pc := 2010) dL_law_2010 4 rfl ?_
      refine g_iconst (pc := 2012) dL_law_2012 ci_2 ?_
      refine g_iadd (pc := 2013) dL_law_2013 ?_
      refine g_sld (pc := 2014) dL_law_2014 (fun x206 => ?_)
      refine g_aload_n (pc := 2015) dL_law_2015 3 rfl ?_
      refine g_bRi (pc := 2016) (c_SX (p_L_engine hl x1 x205 x206 x3 h111) y_L_engine tw1182 dL_law_2016 rfl (st := []) rfl (Nat.le_of_ble_eq_true rfl) (Nat.le_of_ble_eq_true rfl) (Nat.le_of_ble_eq_true rfl)) (fun x207 h228 => ?_)
      refine g_istore (pc := 2019) (lv' := [(5, .int x207), (0, .ref (e_ca E)), (1, .ref (e_z E + x1)), (2, .ref (e_z E + x2)), (3, .ref (e_z E + x3)), (4, .int x4)]) dL_law_2019 (Nat.le_of_ble_eq_true rfl) rfl ?_
      refine g_aload_n (pc := 2021) dL_law_2021 3 rfl ?_
      refine g_aload_n (pc := 2022) dL_law_2022 1 rfl ?_
      refine g_iload (pc := 2023) dL_law_2023 5 rfl ?_
      refine g_iconst (pc := 2025) dL_law_2025 ci_1 ?_
      refine g_iadd (pc := 2026) dL_law_2026 ?_
      refine g_sld (pc := 2027) dL_law_2027 (fun x208 => ?_)
      refine g_aload_n (pc := 2028) dL_law_2028 1 rfl ?_
      refine g_iload (pc := 2029) dL_law_2029 5 rfl ?_
      refine g_iconst (pc := 2031) dL_law_2031 ci_2 ?_
      refine g_iadd (pc := 2032) dL_law_2032 ?_
      refine g_sld (pc := 2033) dL_law_2033 (fun x209 => ?_)
      refine g_gS (fun hs => ?_)
      refine g_bRi (pc := 2034) (c_V cl12 hs (p_X12_engine_ hl x2 x208 x209 h228) y_X12_engine_ tw2192 dL_law_2034 rfl (st := []) rfl (Nat.le_of_ble_eq_true rfl) (Nat.le_of_ble_eq_true rfl) (Nat.le_of_ble_eq_true rfl)) (fun x210 h229 => ?_)
      refine g_istore (pc := 2037) (lv' := [(6, .int x210), (5, .int x207), (0, .ref (e_ca E)), (1, .ref (e_z E + x1)), (2, .ref (e_z E + x2)), (3, .ref (e_z E + x3)), (4, .int x4)]) dL_law_2037 (Nat.le_of_ble_eq_true rfl) rfl ?_
      refine g_aload_n (pc := 2039) dL_law_2039 4 rfl ?_
      refine g_gS (fun hs => ?_)
      refine g_bRi (pc := 2040) (c_V cl12 hs (p_X12_thrown hl x2 h229) y_X12_thrown tw1766 dL_law_2040 rfl (st := []) rfl (Nat.le_of_ble_eq_true rfl) (Nat.le_of_ble_eq_true rfl) (Nat.le_of_ble_eq_true rfl)) (fun x211 h230 => ?_)
      refine g_iload (pc := 2043) dL_law_2043 1 rfl ?_
      refine g_icmpeq (pc := 2045) (tgt := 2050) dL_law_2045 rfl ?_ ?_
      · refine g_iload (pc := 2050) dL_law_2050 1 rfl ?_
        refine g_join (fun k => ∀ (h231 : aH), J_L_law l E n0 m0 2067 [(0, .ref (e_ca E)), (1, .ref (e_z E + x1)), (2, .ref (e_z E + x2)), (3, .ref (e_z E + x3)), (4, .int x4)] [] h231 (k h231)) (fun h231 => ?_) (fun k2067 hk2067 => ?_)
        · refine g_goto (pc := 2067) (tgt := 3562) dL_law_2067 rfl ?_
          exact hk3562 h231
        refine g_ifne (pc := 2052) (tgt := 2067) dL_law_2052 rfl ?_ ?_
        · refine g_aload_n (pc := 2055) dL_law_2055 5 rfl ?_
          refine g_iconst (pc := 2056) dL_law_2056 ci_0 ?_
          refine g_lald (pc := 2057) dL_law_2057 (fun x212 => ?_)
          refine g_iload (pc := 2058) dL_law_2058 0 rfl ?_
          refine g_i2l (pc := 2060) dL_law_2060 ?_
          refine g_lcmp (pc := 2061) dL_law_2061 ?_
          refine g_ifeq (pc := 2062) (tgt := 2067) dL_law_2062 rfl ?_ ?_
          · refine g_lv [2, 3, 4, 5, 6] rfl ?_
            exact hk2067 h230
          · refine g_lv [] rfl ?_
            exact hk2065 h230
        · refine g_lv [2, 3, 4, 5, 6] rfl ?_
          exact hk2067 h230
      · refine g_lv [] rfl ?_
        exact hk2048 h230
    refine g_swI (fun e31 => ?_) (fun e31 => ?_)
    · refine g_swIn (pc := 40) (tgt := 2070) (off := 2030) dL_law_40 (by omega) (by omega) (by rw [e31]; rfl) rfl ?_
      refine g_aload_n (pc := 2070) dL_law_2070 1 rfl ?_
      refine g_aload_n (pc := 2071) dL_law_2071 0 rfl ?_
      refine g_iload (pc := 2072) dL_law_2072 4 rfl ?_
      refine g_iconst (pc := 2074) dL_law_2074 ci_1 ?_
      refine g_iadd (pc := 2075) dL_law_2075 ?_
      refine g_sld (pc := 2076) dL_law_2076 (fun x213 => ?_)
      refine g_aload_n (pc := 2077) dL_law_2077 0 rfl ?_
      refine g_iload (pc := 2078) dL_law_2078 4 rfl ?_
      refine g_iconst (pc := 2080) dL_law_2080 ci_2 ?_
      refine g_iadd (pc := 2081) dL_law_2081 ?_
      refine g_sld (pc := 2082) dL_law_2082 (fun x214 => ?_)
      refine g_aload_n (pc := 2083) dL_law_2083 3 rfl ?_
      refine g_bRi (pc := 2084) (c_SX (p_L_leftAt hl x1 x213 x214 x3 h111) y_L_leftAt tw1194 dL_law_2084 rfl (st := []) rfl (Nat.le_of_ble_eq_true rfl) (Nat.le_of_ble_eq_true rfl) (Nat.le_of_ble_eq_true rfl)) (fun x215 h232 => ?_)
      refine g_istore (pc := 2087) (lv' := [(5, .int x215), (0, .ref (e_ca E)), (1, .ref (e_z E + x1)), (2, .ref (e_z E + x2)), (3, .ref (e_z E + x3)), (4, .int x4)]) dL_law_2087 (Nat.le_of_ble_eq_true rfl) rfl ?_
      refine g_aload_n (pc := 2089) dL_law_2089 3 rfl ?_
      refine g_aload_n (pc := 2090) dL_law_2090 1 rfl ?_
      refine g_iload (pc := 2091) dL_law_2091 5 rfl ?_
      refine g_iconst (pc := 2093) dL_law_2093 ci_1 ?_
      refine g_iadd (pc := 2094) dL_law_2094 ?_
      refine g_sld (pc := 2095) dL_law_2095 (fun x216 => ?_)
      refine g_aload_n (pc := 2096) dL_law_2096 1 rfl ?_
      refine g_iload (pc := 2097) dL_law_2097 5 rfl ?_
      refine g_iconst (pc := 2099) dL_law_2099 ci_2 ?_
      refine g_iadd (pc := 2100) dL_law_2100 ?_
      refine g_sld (pc := 2101) dL_law_2101 (fun x217 => ?_)
      refine g_gS (fun hs => ?_)
      refine g_bRi (pc := 2102) (c_V cl12 hs (p_X12_leftAt hl x2 x216 x217 h232) y_X12_leftAt tw2200 dL_law_2102 rfl (st := []) rfl (Nat.le_of_ble_eq_true rfl) (Nat.le_of_ble_eq_true rfl) (Nat.le_of_ble_eq_true rfl)) (fun x218 h233 => ?_)
      refine g_istore (pc := 2105) (lv' := [(6, .int x218), (5, .int x215), (0, .ref (e_ca E)), (1, .ref (e_z E + x1)), (2, .ref (e_z E + x2)), (3, .ref (e_z E + x3)), (4, .int x4)]) dL_law_2105 (Nat.le_of_ble_eq_true rfl) rfl ?_
      refine g_aload_n (pc := 2107) dL_law_2107 4 rfl ?_
      refine g_gS (fun hs => ?_)
      refine g_bRi (pc := 2108) (c_V cl12 hs (p_X12_thrown hl x2 h233) y_X12_thrown tw1766 dL_law_2108 rfl (st := []) rfl (Nat.le_of_ble_eq_true rfl) (Nat.le_of_ble_eq_true rfl) (Nat.le_of_ble_eq_true rfl)) (fun x219 h234 => ?_)
      refine g_iload (pc := 2111) dL_law_2111 1 rfl ?_
      refine g_icmpeq (pc := 2113) (tgt := 2118) dL_law_2113 rfl ?_ ?_
      · refine g_iload (pc := 2118) dL_law_2118 1 rfl ?_
        refine g_join (fun k => ∀ (h235 : aH), J_L_law l E n0 m0 2135 [(0, .ref (e_ca E)), (1, .ref (e_z E + x1)), (2, .ref (e_z E + x2)), (3, .ref (e_z E + x3)), (4, .int x4)] [] h235 (k h235)) (fun h235 => ?_) (fun k2135 hk2135 => ?_)
        · refine g_goto (pc := 2135) (tgt := 3562) dL_law_2135 rfl ?_
          exact hk3562 h235
        refine g_ifne (pc := 2120) (tgt := 2135) dL_law_2120 rfl ?_ ?_
        · refine g_aload_n (pc := 2123) dL_law_2123 5 rfl ?_
          refine g_iconst (pc := 2124) dL_law_2124 ci_0 ?_
          refine g_lald (pc := 2125) dL_law_2125 (fun x220 => ?_)
          refine g_iload (pc := 2126) dL_law_2126 0 rfl ?_
          refine g_i2l (pc := 2128) dL_law_2128 ?_
          refine g_lcmp (pc := 2129) dL_law_2129 ?_
          refine g_ifeq (pc := 2130) (tgt := 2135) dL_law_2130 rfl ?_ ?_
          · refine g_lv [2, 3, 4, 5, 6] rfl ?_
            exact hk2135 h234
          · refine g_lv [] rfl ?_
            exact hk2133 h234
        · refine g_lv [2, 3, 4, 5, 6] rfl ?_
          exact hk2135 h234
      · refine g_lv [] rfl ?_
        exact hk2116 h234
    refine g_swI (fun e32 => ?_) (fun e32 => ?_)
    · refine g_swIn (pc := 40) (tgt := 2138) (off := 2098) dL_law_40 (by omega) (by omega) (by rw [e32]; rfl) rfl ?_
      refine g_aload_n (pc := 2138) dL_law_2138 1 rfl ?_
      refine g_aload_n (pc := 2139) dL_law_2139 0 rfl ?_
      refine g_iload (pc := 2140) dL_law_2140 4 rfl ?_
      refine g_iconst (pc := 2142) dL_law_2142 ci_1 ?_
      refine g_iadd (pc := 2143) dL_law_2143 ?_
      refine g_sld (pc := 2144) dL_law_2144 (fun x221 => ?_)
      refine g_aload_n (pc := 2145) dL_law_2145 0 rfl ?_
      refine g_iload (pc := 2146) dL_law_2146 4 rfl ?_
      refine g_iconst (pc := 2148) dL_law_2148 ci_2 ?_
      refine g_iadd (pc := 2149) dL_law_2149 ?_
      refine g_sld (pc := 2150) dL_law_2150 (fun x222 => ?_)
      refine g_aload_n (pc := 2151) dL_law_2151 0 rfl ?_
      refine g_iload (pc := 2152) dL_law_2152 4 rfl ?_
      refine g_iconst (pc := 2154) dL_law_2154 ci_3 ?_
      refine g_iadd (pc := 2155) dL_law_2155 ?_
      refine g_sld (pc := 2156) dL_law_2156 (fun x223 => ?_)
      refine g_aload_n (pc := 2157) dL_law_2157 3 rfl ?_
      refine g_bRi (pc := 2158) (c_SX (p_L_member hl x1 x221 x222 x223 x3 h111) y_L_member tw1201 dL_law_2158 rfl (st := []) rfl (Nat.le_of_ble_eq_true rfl) (Nat.le_of_ble_eq_true rfl) (Nat.le_of_ble_eq_true rfl)) (fun x224 h236 => ?_)
      refine g_istore (pc := 2161) (lv' := [(5, .int x224), (0, .ref (e_ca E)), (1, .ref (e_z E + x1)), (2, .ref (e_z E + x2)), (3, .ref (e_z E + x3)), (4, .int x4)]) dL_law_2161 (Nat.le_of_ble_eq_true rfl) rfl ?_
      refine g_aload_n (pc := 2163) dL_law_2163 3 rfl ?_
      refine g_aload_n (pc := 2164) dL_law_2164 1 rfl ?_
      refine g_iload (pc := 2165) dL_law_2165 5 rfl ?_
      refine g_iconst (pc := 2167) dL_law_2167 ci_1 ?_
      refine g_iadd (pc := 2168) dL_law_2168 ?_
      refine g_sld (pc := 2169) dL_law_2169 (fun x225 => ?_)
      refine g_aload_n (pc := 2170) dL_law_2170 1 rfl ?_
      refine g_iload (pc := 2171) dL_law_2171 5 rfl ?_
      refine g_iconst (pc := 2173) dL_law_2173 ci_2 ?_
      refine g_iadd (pc := 2174) dL_law_2174 ?_
      refine g_sld (pc := 2175) dL_law_2175 (fun x226 => ?_)
      refine g_aload_n (pc := 2176) dL_law_2176 1 rfl ?_
      refine g_iload (pc := 2177) dL_law_2177 5 rfl ?_
      refine g_iconst (pc := 2179) dL_law_2179 ci_3 ?_
      refine g_iadd (pc := 2180) dL_law_2180 ?_
      refine g_sld (pc := 2181) dL_law_2181 (fun x227 => ?_)
      refine g_gS (fun hs => ?_)
      refine g_bRi (pc := 2182) (c_V cl12 hs (p_X12_member hl x2 x225 x226 x227 h236) y_X12_member tw2204 dL_law_2182 rfl (st := []) rfl (Nat.le_of_ble_eq_true rfl) (Nat.le_of_ble_eq_true rfl) (Nat.le_of_ble_eq_true rfl)) (fun x228 h237 => ?_)
      refine g_istore (pc := 2185) (lv' := [(6, .int x228), (5, .int x224), (0, .ref (e_ca E)), (1, .ref (e_z E + x1)), (2, .ref (e_z E + x2)), (3, .ref (e_z E + x3)), (4, .int x4)]) dL_law_2185 (Nat.le_of_ble_eq_true rfl) rfl ?_
      refine g_aload_n (pc := 2187) dL_law_2187 4 rfl ?_
      refine g_gS (fun hs => ?_)
      refine g_bRi (pc := 2188) (c_V cl12 hs (p_X12_thrown hl x2 h237) y_X12_thrown tw1766 dL_law_2188 rfl (st := []) rfl (Nat.le_of_ble_eq_true rfl) (Nat.le_of_ble_eq_true rfl) (Nat.le_of_ble_eq_true rfl)) (fun x229 h238 => ?_)
      refine g_iload (pc := 2191) dL_law_2191 1 rfl ?_
      refine g_icmpeq (pc := 2193) (tgt := 2198) dL_law_2193 rfl ?_ ?_
      · refine g_iload (pc := 2198) dL_law_2198 1 rfl ?_
        refine g_join (fun k => ∀ (h239 : aH), J_L_law l E n0 m0 2215 [(0, .ref (e_ca E)), (1, .ref (e_z E + x1)), (2, .ref (e_z E + x2)), (3, .ref (e_z E + x3)), (4, .int x4)] [] h239 (k h239)) (fun h239 => ?_) (fun k2215 hk2215 => ?_)
        · refine g_goto (pc := 2215) (tgt := 3562) dL_law_2215 rfl ?_
          exact hk3562 h239
        refine g_ifne (pc := 2200) (tgt := 2215) dL_law_2200 rfl ?_ ?_
        · refine g_aload_n (pc := 2203) dL_law_2203 5 rfl ?_
          refine g_iconst (pc := 2204) dL_law_2204 ci_0 ?_
          refine g_lald (pc := 2205) dL_law_2205 (fun x230 => ?_)
          refine g_iload (pc := 2206) dL_law_2206 0 rfl ?_
          refine g_i2l (pc := 2208) dL_law_2208 ?_
          refine g_lcmp (pc := 2209) dL_law_2209 ?_
          refine g_ifeq (pc := 2210) (tgt := 2215) dL_law_2210 rfl ?_ ?_
          · refine g_lv [2, 3, 4, 5, 6] rfl ?_
            exact hk2215 h238
          · refine g_lv [] rfl ?_
            exact hk2213 h238
        · refine g_lv [2, 3, 4, 5, 6] rfl ?_
          exact hk2215 h238
      · refine g_lv [] rfl ?_
        exact hk2196 h238
    refine g_swI (fun e33 => ?_) (fun e33 => ?_)
    · refine g_swIn (pc := 40) (tgt := 2218) (off := 2178) dL_law_40 (by omega) (by omega) (by rw [e33]; rfl) rfl ?_
      refine g_aload_n (pc := 2218) dL_law_2218 1 rfl ?_
      refine g_gS (fun hs => ?_)
      refine g_bRi (pc := 2219) (c_V cl11 hs (p_X11_totalCost hl x1 h111) y_X11_totalCost tw530 dL_law_2219 rfl (st := []) rfl (Nat.le_of_ble_eq_true rfl) (Nat.le_of_ble_eq_true rfl) (Nat.le_of_ble_eq_true rfl)) (fun x231 h240 => ?_)
      refine g_aload_n (pc := 2222) dL_law_2222 2 rfl ?_
      refine g_gS (fun hs => ?_)
      refine g_bRi (pc := 2223) (c_V cl12 hs (p_X12_totalCost hl x2 h240) y_X12_totalCost tw2208 dL_law_2223 rfl (st := [.int x231]) rfl (Nat.le_of_ble_eq_true rfl) (Nat.le_of_ble_eq_true rfl) (Nat.le_of_ble_eq_true rfl)) (fun x232 h241 => ?_)
      refine g_icmpeq (pc := 2226) (tgt := 3562) dL_law_2226 rfl ?_ ?_
      · exact hk3562 h241
      · refine g_lv [] rfl ?_
        exact hk2229 h241
    refine g_swI (fun e34 => ?_) (fun e34 => ?_)
    · refine g_swIn (pc := 40) (tgt := 2231) (off := 2191) dL_law_40 (by omega) (by omega) (by rw [e34]; rfl) rfl ?_
      refine g_aload_n (pc := 2231) dL_law_2231 1 rfl ?_
      refine g_aload_n (pc := 2232) dL_law_2232 0 rfl ?_
      refine g_iload (pc := 2233) dL_law_2233 4 rfl ?_
      refine g_iconst (pc := 2235) dL_law_2235 ci_1 ?_
      refine g_iadd (pc := 2236) dL_law_2236 ?_
      refine g_sld (pc := 2237) dL_law_2237 (fun x233 => ?_)
      refine g_aload_n (pc := 2238) dL_law_2238 0 rfl ?_
      refine g_iload (pc := 2239) dL_law_2239 4 rfl ?_
      refine g_iconst (pc := 2241) dL_law_2241 ci_2 ?_
      refine g_iadd (pc := 2242) dL_law_2242 ?_
      refine g_sld (pc := 2243) dL_law_2243 (fun x234 => ?_)
      refine g_aload_n (pc := 2244) dL_law_2244 3 rfl ?_
      refine g_bRi (pc := 2245) (c_SX (p_L_whyAbsent hl x1 x233 x234 x3 h111) y_L_whyAbsent tw1212 dL_law_2245 rfl (st := []) rfl (Nat.le_of_ble_eq_true rfl) (Nat.le_of_ble_eq_true rfl) (Nat.le_of_ble_eq_true rfl)) (fun x235 h242 => ?_)
      refine g_istore (pc := 2248) (lv' := [(5, .int x235), (0, .ref (e_ca E)), (1, .ref (e_z E + x1)), (2, .ref (e_z E + x2)), (3, .ref (e_z E + x3)), (4, .int x4)]) dL_law_2248 (Nat.le_of_ble_eq_true rfl) rfl ?_
      refine g_aload_n (pc := 2250) dL_law_2250 3 rfl ?_
      refine g_aload_n (pc := 2251) dL_law_2251 1 rfl ?_
      refine g_iload (pc := 2252) dL_law_2252 5 rfl ?_
      refine g_iconst (pc := 2254) dL_law_2254 ci_1 ?_
      refine g_iadd (pc := 2255) dL_law_2255 ?_
      refine g_sld (pc := 2256) dL_law_2256 (fun x236 => ?_)
      refine g_aload_n (pc := 2257) dL_law_2257 1 rfl ?_
      refine g_iload (pc := 2258) dL_law_2258 5 rfl ?_
      refine g_iconst (pc := 2260) dL_law_2260 ci_2 ?_
      refine g_iadd (pc := 2261) dL_law_2261 ?_
      refine g_sld (pc := 2262) dL_law_2262 (fun x237 => ?_)
      refine g_gS (fun hs => ?_)
      refine g_bRi (pc := 2263) (c_V cl12 hs (p_X12_whyAbsent hl x2 x236 x237 h242) y_X12_whyAbsent tw2065 dL_law_2263 rfl (st := []) rfl (Nat.le_of_ble_eq_true rfl) (Nat.le_of_ble_eq_true rfl) (Nat.le_of_ble_eq_true rfl)) (fun x238 h243 => ?_)
      refine g_istore (pc := 2266) (lv' := [(6, .int x238), (5, .int x235), (0, .ref (e_ca E)), (1, .ref (e_z E + x1)), (2, .ref (e_z E + x2)), (3, .ref (e_z E + x3)), (4, .int x4)]) dL_law_2266 (Nat.le_of_ble_eq_true rfl) rfl ?_
      refine g_aload_n (pc := 2268) dL_law_2268 4 rfl ?_
      refine g_gS (fun hs => ?_)
      refine g_bRi (pc := 2269) (c_V cl12 hs (p_X12_thrown hl x2 h243) y_X12_thrown tw1766 dL_law_2269 rfl (st := []) rfl (Nat.le_of_ble_eq_true rfl) (Nat.le_of_ble_eq_true rfl) (Nat.le_of_ble_eq_true rfl)) (fun x239 h244 => ?_)
      refine g_iload (pc := 2272) dL_law_2272 1 rfl ?_
      refine g_icmpeq (pc := 2274) (tgt := 2279) dL_law_2274 rfl ?_ ?_
      · refine g_iload (pc := 2279) dL_law_2279 1 rfl ?_
        refine g_join (fun k => ∀ (h245 : aH), J_L_law l E n0 m0 2296 [(0, .ref (e_ca E)), (1, .ref (e_z E + x1)), (2, .ref (e_z E + x2)), (3, .ref (e_z E + x3)), (4, .int x4)] [] h245 (k h245)) (fun h245 => ?_) (fun k2296 hk2296 => ?_)
        · refine g_goto (pc := 2296) (tgt := 3562) dL_law_2296 rfl ?_
          exact hk3562 h245
        refine g_ifne (pc := 2281) (tgt := 2296) dL_law_2281 rfl ?_ ?_
        · refine g_aload_n (pc := 2284) dL_law_2284 5 rfl ?_
          refine g_iconst (pc := 2285) dL_law_2285 ci_0 ?_
          refine g_lald (pc := 2286) dL_law_2286 (fun x240 => ?_)
          refine g_iload (pc := 2287) dL_law_2287 0 rfl ?_
          refine g_i2l (pc := 2289) dL_law_2289 ?_
          refine g_lcmp (pc := 2290) dL_law_2290 ?_
          refine g_ifeq (pc := 2291) (tgt := 2296) dL_law_2291 rfl ?_ ?_
          · refine g_lv [2, 3, 4, 5, 6] rfl ?_
            exact hk2296 h244
          · refine g_lv [] rfl ?_
            exact hk2294 h244
        · refine g_lv [2, 3, 4, 5, 6] rfl ?_
          exact hk2296 h244
      · refine g_lv [] rfl ?_
        exact hk2277 h244
    refine g_swI (fun e35 => ?_) (fun e35 => ?_)
    · refine g_swIn (pc := 40) (tgt := 2299) (off := 2259) dL_law_40 (by omega) (by omega) (by rw [e35]; rfl) rfl ?_
      refine g_aload_n (pc := 2299) dL_law_2299 1 rfl ?_
      refine g_aload_n (pc := 2300) dL_law_2300 0 rfl ?_
      refine g_iload (pc := 2301) dL_law_2301 4 rfl ?_
      refine g_iconst (pc := 2303) dL_law_2303 ci_1 ?_
      refine g_iadd (pc := 2304) dL_law_2304 ?_
      refine g_sld (pc := 2305) dL_law_2305 (fun x241 => ?_)
      refine g_aload_n (pc := 2306) dL_law_2306 0 rfl ?_
      refine g_iload (pc := 2307) dL_law_2307 4 rfl ?_
      refine g_iconst (pc := 2309) dL_law_2309 ci_2 ?_
      refine g_iadd (pc := 2310) dL_law_2310 ?_
      refine g_sld (pc := 2311) dL_law_2311 (fun x242 => ?_)
      refine g_aload_n (pc := 2312) dL_law_2312 3 rfl ?_
      refine g_bRi (pc := 2313) (c_SX (p_L_whyStays hl x1 x241 x242 x3 h111) y_L_whyStays tw1269 dL_law_2313 rfl (st := []) rfl (Nat.le_of_ble_eq_true rfl) (Nat.le_of_ble_eq_true rfl) (Nat.le_of_ble_eq_true rfl)) (fun x243 h246 => ?_)
      refine g_istore (pc := 2316) (lv' := [(5, .int x243), (0, .ref (e_ca E)), (1, .ref (e_z E + x1)), (2, .ref (e_z E + x2)), (3, .ref (e_z E + x3)), (4, .int x4)]) dL_law_2316 (Nat.le_of_ble_eq_true rfl) rfl ?_
      refine g_aload_n (pc := 2318) dL_law_2318 3 rfl ?_
      refine g_aload_n (pc := 2319) dL_law_2319 1 rfl ?_
      refine g_iload (pc := 2320) dL_law_2320 5 rfl ?_
      refine g_iconst (pc := 2322) dL_law_2322 ci_1 ?_
      refine g_iadd (pc := 2323) dL_law_2323 ?_
      refine g_sld (pc := 2324) dL_law_2324 (fun x244 => ?_)
      refine g_aload_n (pc := 2325) dL_law_2325 1 rfl ?_
      refine g_iload (pc := 2326) dL_law_2326 5 rfl ?_
      refine g_iconst (pc := 2328) dL_law_2328 ci_2 ?_
      refine g_iadd (pc := 2329) dL_law_2329 ?_
      refine g_sld (pc := 2330) dL_law_2330 (fun x245 => ?_)
      refine g_gS (fun hs => ?_)
      refine g_bRi (pc := 2331) (c_V cl12 hs (p_X12_whyStays hl x2 x244 x245 h246) y_X12_whyStays tw2077 dL_law_2331 rfl (st := []) rfl (Nat.le_of_ble_eq_true rfl) (Nat.le_of_ble_eq_true rfl) (Nat.le_of_ble_eq_true rfl)) (fun x246 h247 => ?_)
      refine g_istore (pc := 2334) (lv' := [(6, .int x246), (5, .int x243), (0, .ref (e_ca E)), (1, .ref (e_z E + x1)), (2, .ref (e_z E + x2)), (3, .ref (e_z E + x3)), (4, .int x4)]) dL_law_2334 (Nat.le_of_ble_eq_true rfl) rfl ?_
      refine g_aload_n (pc := 2336) dL_law_2336 4 rfl ?_
      refine g_gS (fun hs => ?_)
      refine g_bRi (pc := 2337) (c_V cl12 hs (p_X12_thrown hl x2 h247) y_X12_thrown tw1766 dL_law_2337 rfl (st := []) rfl (Nat.le_of_ble_eq_true rfl) (Nat.le_of_ble_eq_true rfl) (Nat.le_of_ble_eq_true rfl)) (fun x247 h248 => ?_)
      refine g_iload (pc := 2340) dL_law_2340 1 rfl ?_
      refine g_icmpeq (pc := 2342) (tgt := 2347) dL_law_2342 rfl ?_ ?_
      · refine g_iload (pc := 2347) dL_law_2347 1 rfl ?_
        refine g_join (fun k => ∀ (h249 : aH), J_L_law l E n0 m0 2364 [(0, .ref (e_ca E)), (1, .ref (e_z E + x1)), (2, .ref (e_z E + x2)), (3, .ref (e_z E + x3)), (4, .int x4)] [] h249 (k h249)) (fun h249 => ?_) (fun k2364 hk2364 => ?_)
        · refine g_goto (pc := 2364) (tgt := 3562) dL_law_2364 rfl ?_
          exact hk3562 h249
        refine g_ifne (pc := 2349) (tgt := 2364) dL_law_2349 rfl ?_ ?_
        · refine g_aload_n (pc := 2352) dL_law_2352 5 rfl ?_
          refine g_iconst (pc := 2353) dL_law_2353 ci_0 ?_
          refine g_lald (pc := 2354) dL_law_2354 (fun x248 => ?_)
          refine g_iload (pc := 2355) dL_law_2355 0 rfl ?_
          refine g_i2l (pc := 2357) dL_law_2357 ?_
          refine g_lcmp (pc := 2358) dL_law_2358 ?_
          refine g_ifeq (pc := 2359) (tgt := 2364) dL_law_2359 rfl ?_ ?_
          · refine g_lv [2, 3, 4, 5, 6] rfl ?_
            exact hk2364 h248
          · refine g_lv [] rfl ?_
            exact hk2362 h248
        · refine g_lv [2, 3, 4, 5, 6] rfl ?_
          exact hk2364 h248
      · refine g_lv [] rfl ?_
        exact hk2345 h248
    refine g_swI (fun e36 => ?_) (fun e36 => ?_)
    · refine g_swIn (pc := 40) (tgt := 2367) (off := 2327) dL_law_40 (by omega) (by omega) (by rw [e36]; rfl) rfl ?_
      refine g_aload_n (pc := 2367) dL_law_2367 1 rfl ?_
      refine g_aload_n (pc := 2368) dL_law_2368 0 rfl ?_
      refine g_iload (pc := 2369) dL_law_2369 4 rfl ?_
      refine g_iconst (pc := 2371) dL_law_2371 ci_1 ?_
      refine g_iadd (pc := 2372) dL_law_2372 ?_
      refine g_sld (pc := 2373) dL_law_2373 (fun x249 => ?_)
      refine g_aload_n (pc := 2374) dL_law_2374 0 rfl ?_
      refine g_iload (pc := 2375) dL_law_2375 4 rfl ?_
      refine g_iconst (pc := 2377) dL_law_2377 ci_2 ?_
      refine g_iadd (pc := 2378) dL_law_2378 ?_
      refine g_sld (pc := 2379) dL_law_2379 (fun x250 => ?_)
      refine g_aload_n (pc := 2380) dL_law_2380 3 rfl ?_
      refine g_bRi (pc := 2381) (c_SX (p_L_departure hl x1 x249 x250 x3 h111) y_L_departure tw1281 dL_law_2381 rfl (st := []) rfl (Nat.le_of_ble_eq_true rfl) (Nat.le_of_ble_eq_true rfl) (Nat.le_of_ble_eq_true rfl)) (fun x251 h250 => ?_)
      refine g_istore (pc := 2384) (lv' := [(5, .int x251), (0, .ref (e_ca E)), (1, .ref (e_z E + x1)), (2, .ref (e_z E + x2)), (3, .ref (e_z E + x3)), (4, .int x4)]) dL_law_2384 (Nat.le_of_ble_eq_true rfl) rfl ?_
      refine g_aload_n (pc := 2386) dL_law_2386 3 rfl ?_
      refine g_aload_n (pc := 2387) dL_law_2387 1 rfl ?_
      refine g_iload (pc := 2388) dL_law_2388 5 rfl ?_
      refine g_iconst (pc := 2390) dL_law_2390 ci_1 ?_
      refine g_iadd (pc := 2391) dL_law_2391 ?_
      refine g_sld (pc := 2392) dL_law_2392 (fun x252 => ?_)
      refine g_aload_n (pc := 2393) dL_law_2393 1 rfl ?_
      refine g_iload (pc := 2394) dL_law_2394 5 rfl ?_
      refine g_iconst (pc := 2396) dL_law_2396 ci_2 ?_
      refine g_iadd (pc := 2397) dL_law_2397 ?_
      refine g_sld (pc := 2398) dL_law_2398 (fun x253 => ?_)
      refine g_gS (fun hs => ?_)
      refine g_bRi (pc := 2399) (c_V cl12 hs (p_X12_departure hl x2 x252 x253 h250) y_X12_departure tw2112 dL_law_2399 rfl (st := []) rfl (Nat.le_of_ble_eq_true rfl) (Nat.le_of_ble_eq_true rfl) (Nat.le_of_ble_eq_true rfl)) (fun x254 h251 => ?_)
      refine g_istore (pc := 2402) (lv' := [(6, .int x254), (5, .int x251), (0, .ref (e_ca E)), (1, .ref (e_z E + x1)), (2, .ref (e_z E + x2)), (3, .ref (e_z E + x3)), (4, .int x4)]) dL_law_2402 (Nat.le_of_ble_eq_true rfl) rfl ?_
      refine g_aload_n (pc := 2404) dL_law_2404 4 rfl ?_
      refine g_gS (fun hs => ?_)
      refine g_bRi (pc := 2405) (c_V cl12 hs (p_X12_thrown hl x2 h251) y_X12_thrown tw1766 dL_law_2405 rfl (st := []) rfl (Nat.le_of_ble_eq_true rfl) (Nat.le_of_ble_eq_true rfl) (Nat.le_of_ble_eq_true rfl)) (fun x255 h252 => ?_)
      refine g_iload (pc := 2408) dL_law_2408 1 rfl ?_
      refine g_icmpeq (pc := 2410) (tgt := 2415) dL_law_2410 rfl ?_ ?_
      · refine g_iload (pc := 2415) dL_law_2415 1 rfl ?_
        refine g_join (fun k => ∀ (h253 : aH), J_L_law l E n0 m0 2432 [(0, .ref (e_ca E)), (1, .ref (e_z E + x1)), (2, .ref (e_z E + x2)), (3, .ref (e_z E + x3)), (4, .int x4)] [] h253 (k h253)) (fun h253 => ?_) (fun k2432 hk2432 => ?_)
        · refine g_goto (pc := 2432) (tgt := 3562) dL_law_2432 rfl ?_
          exact hk3562 h253
        refine g_ifne (pc := 2417) (tgt := 2432) dL_law_2417 rfl ?_ ?_
        · refine g_aload_n (pc := 2420) dL_law_2420 5 rfl ?_
          refine g_iconst (pc := 2421) dL_law_2421 ci_0 ?_
          refine g_lald (pc := 2422) dL_law_2422 (fun x256 => ?_)
          refine g_iload (pc := 2423) dL_law_2423 0 rfl ?_
          refine g_i2l (pc := 2425) dL_law_2425 ?_
          refine g_lcmp (pc := 2426) dL_law_2426 ?_
          refine g_ifeq (pc := 2427) (tgt := 2432) dL_law_2427 rfl ?_ ?_
          · refine g_lv [2, 3, 4, 5, 6] rfl ?_
            exact hk2432 h252
          · refine g_lv [] rfl ?_
            exact hk2430 h252
        · refine g_lv [2, 3, 4, 5, 6] rfl ?_
          exact hk2432 h252
      · refine g_lv [] rfl ?_
        exact hk2413 h252
    refine g_swI (fun e37 => ?_) (fun e37 => ?_)
    · refine g_swIn (pc := 40) (tgt := 2435) (off := 2395) dL_law_40 (by omega) (by omega) (by rw [e37]; rfl) rfl ?_
      refine g_aload_n (pc := 2435) dL_law_2435 1 rfl ?_
      refine g_aload_n (pc := 2436) dL_law_2436 0 rfl ?_
      refine g_iload (pc := 2437) dL_law_2437 4 rfl ?_
      refine g_iconst (pc := 2439) dL_law_2439 ci_1 ?_
      refine g_iadd (pc := 2440) dL_law_2440 ?_
      refine g_sld (pc := 2441) dL_law_2441 (fun x257 => ?_)
      refine g_aload_n (pc := 2442) dL_law_2442 0 rfl ?_
      refine g_iload (pc := 2443) dL_law_2443 4 rfl ?_
      refine g_iconst (pc := 2445) dL_law_2445 ci_2 ?_
      refine g_iadd (pc := 2446) dL_law_2446 ?_
      refine g_sld (pc := 2447) dL_law_2447 (fun x258 => ?_)
      refine g_aload_n (pc := 2448) dL_law_2448 0 rfl ?_
      refine g_iload (pc := 2449) dL_law_2449 4 rfl ?_
      refine g_iconst (pc := 2451) dL_law_2451 ci_3 ?_
      refine g_iadd (pc := 2452) dL_law_2452 ?_
      refine g_sld (pc := 2453) dL_law_2453 (fun x259 => ?_)
      refine g_aload_n (pc := 2454) dL_law_2454 3 rfl ?_
      refine g_bRi (pc := 2455) (c_SX (p_L_mans hl x1 x257 x258 x259 x3 h111) y_L_mans tw1293 dL_law_2455 rfl (st := []) rfl (Nat.le_of_ble_eq_true rfl) (Nat.le_of_ble_eq_true rfl) (Nat.le_of_ble_eq_true rfl)) (fun x260 h254 => ?_)
      refine g_istore (pc := 2458) (lv' := [(5, .int x260), (0, .ref (e_ca E)), (1, .ref (e_z E + x1)), (2, .ref (e_z E + x2)), (3, .ref (e_z E + x3)), (4, .int x4)]) dL_law_2458 (Nat.le_of_ble_eq_true rfl) rfl ?_
      refine g_aload_n (pc := 2460) dL_law_2460 3 rfl ?_
      refine g_aload_n (pc := 2461) dL_law_2461 1 rfl ?_
      refine g_iload (pc := 2462) dL_law_2462 5 rfl ?_
      refine g_iconst (pc := 2464) dL_law_2464 ci_1 ?_
      refine g_iadd (pc := 2465) dL_law_2465 ?_
      refine g_sld (pc := 2466) dL_law_2466 (fun x261 => ?_)
      refine g_aload_n (pc := 2467) dL_law_2467 1 rfl ?_
      refine g_iload (pc := 2468) dL_law_2468 5 rfl ?_
      refine g_iconst (pc := 2470) dL_law_2470 ci_2 ?_
      refine g_iadd (pc := 2471) dL_law_2471 ?_
      refine g_sld (pc := 2472) dL_law_2472 (fun x262 => ?_)
      refine g_aload_n (pc := 2473) dL_law_2473 1 rfl ?_
      refine g_iload (pc := 2474) dL_law_2474 5 rfl ?_
      refine g_iconst (pc := 2476) dL_law_2476 ci_3 ?_
      refine g_iadd (pc := 2477) dL_law_2477 ?_
      refine g_sld (pc := 2478) dL_law_2478 (fun x263 => ?_)
      refine g_gS (fun hs => ?_)
      refine g_bRi (pc := 2479) (c_V cl12 hs (p_X12_mans hl x2 x261 x262 x263 h254) y_X12_mans tw2116 dL_law_2479 rfl (st := []) rfl (Nat.le_of_ble_eq_true rfl) (Nat.le_of_ble_eq_true rfl) (Nat.le_of_ble_eq_true rfl)) (fun x264 h255 => ?_)
      refine g_istore (pc := 2482) (lv' := [(6, .int x264), (5, .int x260), (0, .ref (e_ca E)), (1, .ref (e_z E + x1)), (2, .ref (e_z E + x2)), (3, .ref (e_z E + x3)), (4, .int x4)]) dL_law_2482 (Nat.le_of_ble_eq_true rfl) rfl ?_
      refine g_aload_n (pc := 2484) dL_law_2484 4 rfl ?_
      refine g_gS (fun hs => ?_)
      refine g_bRi (pc := 2485) (c_V cl12 hs (p_X12_thrown hl x2 h255) y_X12_thrown tw1766 dL_law_2485 rfl (st := []) rfl (Nat.le_of_ble_eq_true rfl) (Nat.le_of_ble_eq_true rfl) (Nat.le_of_ble_eq_true rfl)) (fun x265 h256 => ?_)
      refine g_iload (pc := 2488) dL_law_2488 1 rfl ?_
      refine g_icmpeq (pc := 2490) (tgt := 2495) dL_law_2490 rfl ?_ ?_
      · refine g_iload (pc := 2495) dL_law_2495 1 rfl ?_
        refine g_join (fun k => ∀ (h257 : aH), J_L_law l E n0 m0 2512 [(0, .ref (e_ca E)), (1, .ref (e_z E + x1)), (2, .ref (e_z E + x2)), (3, .ref (e_z E + x3)), (4, .int x4)] [] h257 (k h257)) (fun h257 => ?_) (fun k2512 hk2512 => ?_)
        · refine g_goto (pc := 2512) (tgt := 3562) dL_law_2512 rfl ?_
          exact hk3562 h257
        refine g_ifne (pc := 2497) (tgt := 2512) dL_law_2497 rfl ?_ ?_
        · refine g_aload_n (pc := 2500) dL_law_2500 5 rfl ?_
          refine g_iconst (pc := 2501) dL_law_2501 ci_0 ?_
          refine g_lald (pc := 2502) dL_law_2502 (fun x266 => ?_)
          refine g_iload (pc := 2503) dL_law_2503 0 rfl ?_
          refine g_i2l (pc := 2505) dL_law_2505 ?_
          refine g_lcmp (pc := 2506) dL_law_2506 ?_
          refine g_ifeq (pc := 2507) (tgt := 2512) dL_law_2507 rfl ?_ ?_
          · refine g_lv [2, 3, 4, 5, 6] rfl ?_
            exact hk2512 h256
          · refine g_lv [] rfl ?_
            exact hk2510 h256
        · refine g_lv [2, 3, 4, 5, 6] rfl ?_
          exact hk2512 h256
      · refine g_lv [] rfl ?_
        exact hk2493 h256
    refine g_swI (fun e38 => ?_) (fun e38 => ?_)
    · refine g_swIn (pc := 40) (tgt := 2515) (off := 2475) dL_law_40 (by omega) (by omega) (by rw [e38]; rfl) rfl ?_
      refine g_aload_n (pc := 2515) dL_law_2515 1 rfl ?_
      refine g_aload_n (pc := 2516) dL_law_2516 0 rfl ?_
      refine g_iload (pc := 2517) dL_law_2517 4 rfl ?_
      refine g_iconst (pc := 2519) dL_law_2519 ci_1 ?_
      refine g_iadd (pc := 2520) dL_law_2520 ?_
      refine g_sld (pc := 2521) dL_law_2521 (fun x267 => ?_)
      refine g_aload_n (pc := 2522) dL_law_2522 0 rfl ?_
      refine g_iload (pc := 2523) dL_law_2523 4 rfl ?_
      refine g_iconst (pc := 2525) dL_law_2525 ci_2 ?_
      refine g_iadd (pc := 2526) dL_law_2526 ?_
      refine g_sld (pc := 2527) dL_law_2527 (fun x268 => ?_)
      refine g_aload_n (pc := 2528) dL_law_2528 3 rfl ?_
      refine g_bRi (pc := 2529) (c_SX (p_L_manned hl x1 x267 x268 x3 h111) y_L_manned tw1314 dL_law_2529 rfl (st := []) rfl (Nat.le_of_ble_eq_true rfl) (Nat.le_of_ble_eq_true rfl) (Nat.le_of_ble_eq_true rfl)) (fun x269 h258 => ?_)
      refine g_istore (pc := 2532) (lv' := [(5, .int x269), (0, .ref (e_ca E)), (1, .ref (e_z E + x1)), (2, .ref (e_z E + x2)), (3, .ref (e_z E + x3)), (4, .int x4)]) dL_law_2532 (Nat.le_of_ble_eq_true rfl) rfl ?_
      refine g_aload_n (pc := 2534) dL_law_2534 3 rfl ?_
      refine g_aload_n (pc := 2535) dL_law_2535 1 rfl ?_
      refine g_iload (pc := 2536) dL_law_2536 5 rfl ?_
      refine g_iconst (pc := 2538) dL_law_2538 ci_1 ?_
      refine g_iadd (pc := 2539) dL_law_2539 ?_
      refine g_sld (pc := 2540) dL_law_2540 (fun x270 => ?_)
      refine g_aload_n (pc := 2541) dL_law_2541 1 rfl ?_
      refine g_iload (pc := 2542) dL_law_2542 5 rfl ?_
      refine g_iconst (pc := 2544) dL_law_2544 ci_2 ?_
      refine g_iadd (pc := 2545) dL_law_2545 ?_
      refine g_sld (pc := 2546) dL_law_2546 (fun x271 => ?_)
      refine g_gS (fun hs => ?_)
      refine g_bRi (pc := 2547) (c_V cl12 hs (p_X12_manned hl x2 x270 x271 h258) y_X12_manned tw2120 dL_law_2547 rfl (st := []) rfl (Nat.le_of_ble_eq_true rfl) (Nat.le_of_ble_eq_true rfl) (Nat.le_of_ble_eq_true rfl)) (fun x272 h259 => ?_)
      refine g_istore (pc := 2550) (lv' := [(6, .int x272), (5, .int x269), (0, .ref (e_ca E)), (1, .ref (e_z E + x1)), (2, .ref (e_z E + x2)), (3, .ref (e_z E + x3)), (4, .int x4)]) dL_law_2550 (Nat.le_of_ble_eq_true rfl) rfl ?_
      refine g_aload_n (pc := 2552) dL_law_2552 4 rfl ?_
      refine g_gS (fun hs => ?_)
      refine g_bRi (pc := 2553) (c_V cl12 hs (p_X12_thrown hl x2 h259) y_X12_thrown tw1766 dL_law_2553 rfl (st := []) rfl (Nat.le_of_ble_eq_true rfl) (Nat.le_of_ble_eq_true rfl) (Nat.le_of_ble_eq_true rfl)) (fun x273 h260 => ?_)
      refine g_iload (pc := 2556) dL_law_2556 1 rfl ?_
      refine g_icmpeq (pc := 2558) (tgt := 2563) dL_law_2558 rfl ?_ ?_
      · refine g_iload (pc := 2563) dL_law_2563 1 rfl ?_
        refine g_join (fun k => ∀ (h261 : aH), J_L_law l E n0 m0 2580 [(0, .ref (e_ca E)), (1, .ref (e_z E + x1)), (2, .ref (e_z E + x2)), (3, .ref (e_z E + x3)), (4, .int x4)] [] h261 (k h261)) (fun h261 => ?_) (fun k2580 hk2580 => ?_)
        · refine g_goto (pc := 2580) (tgt := 3562) dL_law_2580 rfl ?_
          exact hk3562 h261
        refine g_ifne (pc := 2565) (tgt := 2580) dL_law_2565 rfl ?_ ?_
        · refine g_aload_n (pc := 2568) dL_law_2568 5 rfl ?_
          refine g_iconst (pc := 2569) dL_law_2569 ci_0 ?_
          refine g_lald (pc := 2570) dL_law_2570 (fun x274 => ?_)
          refine g_iload (pc := 2571) dL_law_2571 0 rfl ?_
          refine g_i2l (pc := 2573) dL_law_2573 ?_
          refine g_lcmp (pc := 2574) dL_law_2574 ?_
          refine g_ifeq (pc := 2575) (tgt := 2580) dL_law_2575 rfl ?_ ?_
          · refine g_lv [2, 3, 4, 5, 6] rfl ?_
            exact hk2580 h260
          · refine g_lv [] rfl ?_
            exact hk2578 h260
        · refine g_lv [2, 3, 4, 5, 6] rfl ?_
          exact hk2580 h260
      · refine g_lv [] rfl ?_
        exact hk2561 h260
    refine g_swI (fun e39 => ?_) (fun e39 => ?_)
    · refine g_swIn (pc := 40) (tgt := 2583) (off := 2543) dL_law_40 (by omega) (by omega) (by rw [e39]; rfl) rfl ?_
      refine g_aload_n (pc := 2583) dL_law_2583 1 rfl ?_
      refine g_aload_n (pc := 2584) dL_law_2584 0 rfl ?_
      refine g_iload (pc := 2585) dL_law_2585 4 rfl ?_
      refine g_iconst (pc := 2587) dL_law_2587 ci_1 ?_
      refine g_iadd (pc := 2588) dL_law_2588 ?_
      refine g_sld (pc := 2589) dL_law_2589 (fun x275 => ?_)
      refine g_aload_n (pc := 2590) dL_law_2590 3 rfl ?_
      refine g_bRi (pc := 2591) (c_SX (p_L_wouldAnswer hl x1 x275 x3 h111) y_L_wouldAnswer tw1321 dL_law_2591 rfl (st := []) rfl (Nat.le_of_ble_eq_true rfl) (Nat.le_of_ble_eq_true rfl) (Nat.le_of_ble_eq_true rfl)) (fun x276 h262 => ?_)
      refine g_istore (pc := 2594) (lv' := [(5, .int x276), (0, .ref (e_ca E)), (1, .ref (e_z E + x1)), (2, .ref (e_z E + x2)), (3, .ref (e_z E + x3)), (4, .int x4)]) dL_law_2594 (Nat.le_of_ble_eq_true rfl) rfl ?_
      refine g_aload_n (pc := 2596) dL_law_2596 3 rfl ?_
      refine g_aload_n (pc := 2597) dL_law_2597 1 rfl ?_
      refine g_iload (pc := 2598) dL_law_2598 5 rfl ?_
      refine g_iconst (pc := 2600) dL_law_2600 ci_1 ?_
      refine g_iadd (pc := 2601) dL_law_2601 ?_
      refine g_sld (pc := 2602) dL_law_2602 (fun x277 => ?_)
      refine g_gS (fun hs => ?_)
      refine g_bRi (pc := 2603) (c_V cl12 hs (p_X12_wouldAnswer hl x2 x277 h262) y_X12_wouldAnswer tw2132 dL_law_2603 rfl (st := []) rfl (Nat.le_of_ble_eq_true rfl) (Nat.le_of_ble_eq_true rfl) (Nat.le_of_ble_eq_true rfl)) (fun x278 h263 => ?_)
      refine g_istore (pc := 2606) (lv' := [(6, .int x278), (5, .int x276), (0, .ref (e_ca E)), (1, .ref (e_z E + x1)), (2, .ref (e_z E + x2)), (3, .ref (e_z E + x3)), (4, .int x4)]) dL_law_2606 (Nat.le_of_ble_eq_true rfl) rfl ?_
      refine g_aload_n (pc := 2608) dL_law_2608 4 rfl ?_
      refine g_gS (fun hs => ?_)
      refine g_bRi (pc := 2609) (c_V cl12 hs (p_X12_thrown hl x2 h263) y_X12_thrown tw1766 dL_law_2609 rfl (st := []) rfl (Nat.le_of_ble_eq_true rfl) (Nat.le_of_ble_eq_true rfl) (Nat.le_of_ble_eq_true rfl)) (fun x279 h264 => ?_)
      refine g_iload (pc := 2612) dL_law_2612 1 rfl ?_
      refine g_icmpeq (pc := 2614) (tgt := 2619) dL_law_2614 rfl ?_ ?_
      · refine g_iload (pc := 2619) dL_law_2619 1 rfl ?_
        refine g_join (fun k => ∀ (h265 : aH), J_L_law l E n0 m0 2643 [(0, .ref (e_ca E)), (1, .ref (e_z E + x1)), (2, .ref (e_z E + x2)), (3, .ref (e_z E + x3)), (4, .int x4)] [] h265 (k h265)) (fun h265 => ?_) (fun k2643 hk2643 => ?_)
        · refine g_goto (pc := 2643) (tgt := 3562) dL_law_2643 rfl ?_
          exact hk3562 h265
        refine g_ifne (pc := 2621) (tgt := 2643) dL_law_2621 rfl ?_ ?_
        · refine g_aload_n (pc := 2624) dL_law_2624 5 rfl ?_
          refine g_iconst (pc := 2625) dL_law_2625 ci_0 ?_
          refine g_lald (pc := 2626) dL_law_2626 (fun x280 => ?_)
          refine g_iload (pc := 2627) dL_law_2627 0 rfl ?_
          refine g_join (fun k => ∀ (x281 : Int64) (h266 : aH), J_L_law l E n0 m0 2637 [(0, .ref (e_ca E)), (1, .ref (e_z E + x1)), (2, .ref (e_z E + x2)), (3, .ref (e_z E + x3)), (4, .int x4)] [.long x281, .long x280] h266 (k x281 h266)) (fun x281 h266 => ?_) (fun k2637 hk2637 => ?_)
          · refine g_lcmp (pc := 2637) dL_law_2637 ?_
            refine g_ifeq (pc := 2638) (tgt := 2643) dL_law_2638 rfl ?_ ?_
            · exact hk2643 h266
            · refine g_lv [] rfl ?_
              exact hk2641 h266
          refine g_ifeq (pc := 2629) (tgt := 2636) dL_law_2629 rfl ?_ ?_
          · refine g_lconst (pc := 2636) dL_law_2636 cl_0 ?_
            refine g_lv [2, 3, 4, 5, 6] rfl ?_
            exact hk2637 (0 : Int64) h264
          · refine g_lconst (pc := 2632) dL_law_2632 cl_1 ?_
            refine g_goto (pc := 2633) (tgt := 2637) dL_law_2633 rfl ?_
            refine g_lv [2, 3, 4, 5, 6] rfl ?_
            exact hk2637 (1 : Int64) h264
        · refine g_lv [2, 3, 4, 5, 6] rfl ?_
          exact hk2643 h264
      · refine g_lv [] rfl ?_
        exact hk2617 h264
    refine g_swI (fun e40 => ?_) (fun e40 => ?_)
    · refine g_swIn (pc := 40) (tgt := 2646) (off := 2606) dL_law_40 (by omega) (by omega) (by rw [e40]; rfl) rfl ?_
      refine g_aload_n (pc := 2646) dL_law_2646 1 rfl ?_
      refine g_aload_n (pc := 2647) dL_law_2647 0 rfl ?_
      refine g_iload (pc := 2648) dL_law_2648 4 rfl ?_
      refine g_iconst (pc := 2650) dL_law_2650 ci_1 ?_
      refine g_iadd (pc := 2651) dL_law_2651 ?_
      refine g_sld (pc := 2652) dL_law_2652 (fun x282 => ?_)
      refine g_aload_n (pc := 2653) dL_law_2653 3 rfl ?_
      refine g_bRi (pc := 2654) (c_SX (p_L_mostEngines hl x1 x282 x3 h111) y_L_mostEngines tw1328 dL_law_2654 rfl (st := []) rfl (Nat.le_of_ble_eq_true rfl) (Nat.le_of_ble_eq_true rfl) (Nat.le_of_ble_eq_true rfl)) (fun x283 h267 => ?_)
      refine g_istore (pc := 2657) (lv' := [(5, .int x283), (0, .ref (e_ca E)), (1, .ref (e_z E + x1)), (2, .ref (e_z E + x2)), (3, .ref (e_z E + x3)), (4, .int x4)]) dL_law_2657 (Nat.le_of_ble_eq_true rfl) rfl ?_
      refine g_aload_n (pc := 2659) dL_law_2659 3 rfl ?_
      refine g_aload_n (pc := 2660) dL_law_2660 1 rfl ?_
      refine g_iload (pc := 2661) dL_law_2661 5 rfl ?_
      refine g_iconst (pc := 2663) dL_law_2663 ci_1 ?_
      refine g_iadd (pc := 2664) dL_law_2664 ?_
      refine g_sld (pc := 2665) dL_law_2665 (fun x284 => ?_)
      refine g_gS (fun hs => ?_)
      refine g_bRi (pc := 2666) (c_V cl12 hs (p_X12_mostEngines hl x2 x284 h267) y_X12_mostEngines tw2140 dL_law_2666 rfl (st := []) rfl (Nat.le_of_ble_eq_true rfl) (Nat.le_of_ble_eq_true rfl) (Nat.le_of_ble_eq_true rfl)) (fun x285 h268 => ?_)
      refine g_istore (pc := 2669) (lv' := [(6, .int x285), (5, .int x283), (0, .ref (e_ca E)), (1, .ref (e_z E + x1)), (2, .ref (e_z E + x2)), (3, .ref (e_z E + x3)), (4, .int x4)]) dL_law_2669 (Nat.le_of_ble_eq_true rfl) rfl ?_
      refine g_aload_n (pc := 2671) dL_law_2671 4 rfl ?_
      refine g_gS (fun hs => ?_)
      refine g_bRi (pc := 2672) (c_V cl12 hs (p_X12_thrown hl x2 h268) y_X12_thrown tw1766 dL_law_2672 rfl (st := []) rfl (Nat.le_of_ble_eq_true rfl) (Nat.le_of_ble_eq_true rfl) (Nat.le_of_ble_eq_true rfl)) (fun x286 h269 => ?_)
      refine g_iload (pc := 2675) dL_law_2675 1 rfl ?_
      refine g_icmpeq (pc := 2677) (tgt := 2682) dL_law_2677 rfl ?_ ?_
      · refine g_iload (pc := 2682) dL_law_2682 1 rfl ?_
        refine g_join (fun k => ∀ (h270 : aH), J_L_law l E n0 m0 2699 [(0, .ref (e_ca E)), (1, .ref (e_z E + x1)), (2, .ref (e_z E + x2)), (3, .ref (e_z E + x3)), (4, .int x4)] [] h270 (k h270)) (fun h270 => ?_) (fun k2699 hk2699 => ?_)
        · refine g_goto (pc := 2699) (tgt := 3562) dL_law_2699 rfl ?_
          exact hk3562 h270
        refine g_ifne (pc := 2684) (tgt := 2699) dL_law_2684 rfl ?_ ?_
        · refine g_aload_n (pc := 2687) dL_law_2687 5 rfl ?_
          refine g_iconst (pc := 2688) dL_law_2688 ci_0 ?_
          refine g_lald (pc := 2689) dL_law_2689 (fun x287 => ?_)
          refine g_iload (pc := 2690) dL_law_2690 0 rfl ?_
          refine g_i2l (pc := 2692) dL_law_2692 ?_
          refine g_lcmp (pc := 2693) dL_law_2693 ?_
          refine g_ifeq (pc := 2694) (tgt := 2699) dL_law_2694 rfl ?_ ?_
          · refine g_lv [2, 3, 4, 5, 6] rfl ?_
            exact hk2699 h269
          · refine g_lv [] rfl ?_
            exact hk2697 h269
        · refine g_lv [2, 3, 4, 5, 6] rfl ?_
          exact hk2699 h269
      · refine g_lv [] rfl ?_
        exact hk2680 h269
    refine g_swI (fun e41 => ?_) (fun e41 => ?_)
    · refine g_swIn (pc := 40) (tgt := 2702) (off := 2662) dL_law_40 (by omega) (by omega) (by rw [e41]; rfl) rfl ?_
      refine g_aload_n (pc := 2702) dL_law_2702 1 rfl ?_
      refine g_aload_n (pc := 2703) dL_law_2703 0 rfl ?_
      refine g_iload (pc := 2704) dL_law_2704 4 rfl ?_
      refine g_iconst (pc := 2706) dL_law_2706 ci_1 ?_
      refine g_iadd (pc := 2707) dL_law_2707 ?_
      refine g_sld (pc := 2708) dL_law_2708 (fun x288 => ?_)
      refine g_aload_n (pc := 2709) dL_law_2709 3 rfl ?_
      refine g_bRi (pc := 2710) (c_SX (p_L_hoursUntilAnswered hl x1 x288 x3 h111) y_L_hoursUntilAnswered tw1345 dL_law_2710 rfl (st := []) rfl (Nat.le_of_ble_eq_true rfl) (Nat.le_of_ble_eq_true rfl) (Nat.le_of_ble_eq_true rfl)) (fun x289 h271 => ?_)
      refine g_istore (pc := 2713) (lv' := [(5, .int x289), (0, .ref (e_ca E)), (1, .ref (e_z E + x1)), (2, .ref (e_z E + x2)), (3, .ref (e_z E + x3)), (4, .int x4)]) dL_law_2713 (Nat.le_of_ble_eq_true rfl) rfl ?_
      refine g_aload_n (pc := 2715) dL_law_2715 3 rfl ?_
      refine g_aload_n (pc := 2716) dL_law_2716 1 rfl ?_
      refine g_iload (pc := 2717) dL_law_2717 5 rfl ?_
      refine g_iconst (pc := 2719) dL_law_2719 ci_1 ?_
      refine g_iadd (pc := 2720) dL_law_2720 ?_
      refine g_sld (pc := 2721) dL_law_2721 (fun x290 => ?_)
      refine g_gS (fun hs => ?_)
      refine g_bRi (pc := 2722) (c_V cl12 hs (p_X12_hoursUntilAnswered hl x2 x290 h271) y_X12_hoursUntilAnswered tw2144 dL_law_2722 rfl (st := []) rfl (Nat.le_of_ble_eq_true rfl) (Nat.le_of_ble_eq_true rfl) (Nat.le_of_ble_eq_true rfl)) (fun x291 h272 => ?_)
      refine g_istore (pc := 2725) (lv' := [(6, .int x291), (5, .int x289), (0, .ref (e_ca E)), (1, .ref (e_z E + x1)), (2, .ref (e_z E + x2)), (3, .ref (e_z E + x3)), (4, .int x4)]) dL_law_2725 (Nat.le_of_ble_eq_true rfl) rfl ?_
      refine g_aload_n (pc := 2727) dL_law_2727 4 rfl ?_
      refine g_gS (fun hs => ?_)
      refine g_bRi (pc := 2728) (c_V cl12 hs (p_X12_thrown hl x2 h272) y_X12_thrown tw1766 dL_law_2728 rfl (st := []) rfl (Nat.le_of_ble_eq_true rfl) (Nat.le_of_ble_eq_true rfl) (Nat.le_of_ble_eq_true rfl)) (fun x292 h273 => ?_)
      refine g_iload (pc := 2731) dL_law_2731 1 rfl ?_
      refine g_icmpeq (pc := 2733) (tgt := 2738) dL_law_2733 rfl ?_ ?_
      · refine g_iload (pc := 2738) dL_law_2738 1 rfl ?_
        refine g_join (fun k => ∀ (h274 : aH), J_L_law l E n0 m0 2755 [(0, .ref (e_ca E)), (1, .ref (e_z E + x1)), (2, .ref (e_z E + x2)), (3, .ref (e_z E + x3)), (4, .int x4)] [] h274 (k h274)) (fun h274 => ?_) (fun k2755 hk2755 => ?_)
        · refine g_goto (pc := 2755) (tgt := 3562) dL_law_2755 rfl ?_
          exact hk3562 h274
        refine g_ifne (pc := 2740) (tgt := 2755) dL_law_2740 rfl ?_ ?_
        · refine g_aload_n (pc := 2743) dL_law_2743 5 rfl ?_
          refine g_iconst (pc := 2744) dL_law_2744 ci_0 ?_
          refine g_lald (pc := 2745) dL_law_2745 (fun x293 => ?_)
          refine g_iload (pc := 2746) dL_law_2746 0 rfl ?_
          refine g_i2l (pc := 2748) dL_law_2748 ?_
          refine g_lcmp (pc := 2749) dL_law_2749 ?_
          refine g_ifeq (pc := 2750) (tgt := 2755) dL_law_2750 rfl ?_ ?_
          · refine g_lv [2, 3, 4, 5, 6] rfl ?_
            exact hk2755 h273
          · refine g_lv [] rfl ?_
            exact hk2753 h273
        · refine g_lv [2, 3, 4, 5, 6] rfl ?_
          exact hk2755 h273
      · refine g_lv [] rfl ?_
        exact hk2736 h273
    refine g_swI (fun e42 => ?_) (fun e42 => ?_)
    · refine g_swIn (pc := 40) (tgt := 2758) (off := 2718) dL_law_40 (by omega) (by omega) (by rw [e42]; rfl) rfl ?_
      refine g_aload_n (pc := 2758) dL_law_2758 1 rfl ?_
      refine g_aload_n (pc := 2759) dL_law_2759 0 rfl ?_
      refine g_iload (pc := 2760) dL_law_2760 4 rfl ?_
      refine g_iconst (pc := 2762) dL_law_2762 ci_1 ?_
      refine g_iadd (pc := 2763) dL_law_2763 ?_
      refine g_sld (pc := 2764) dL_law_2764 (fun x294 => ?_)
      refine g_aload_n (pc := 2765) dL_law_2765 3 rfl ?_
      refine g_bRi (pc := 2766) (c_SX (p_L_helpfulPager hl x1 x294 x3 h111) y_L_helpfulPager tw1376 dL_law_2766 rfl (st := []) rfl (Nat.le_of_ble_eq_true rfl) (Nat.le_of_ble_eq_true rfl) (Nat.le_of_ble_eq_true rfl)) (fun x295 h275 => ?_)
      refine g_istore (pc := 2769) (lv' := [(5, .int x295), (0, .ref (e_ca E)), (1, .ref (e_z E + x1)), (2, .ref (e_z E + x2)), (3, .ref (e_z E + x3)), (4, .int x4)]) dL_law_2769 (Nat.le_of_ble_eq_true rfl) rfl ?_
      refine g_aload_n (pc := 2771) dL_law_2771 3 rfl ?_
      refine g_aload_n (pc := 2772) dL_law_2772 1 rfl ?_
      refine g_iload (pc := 2773) dL_law_2773 5 rfl ?_
      refine g_iconst (pc := 2775) dL_law_2775 ci_1 ?_
      refine g_iadd (pc := 2776) dL_law_2776 ?_
      refine g_sld (pc := 2777) dL_law_2777 (fun x296 => ?_)
      refine g_gS (fun hs => ?_)
      refine g_bRi (pc := 2778) (c_V cl12 hs (p_X12_helpfulPager hl x2 x296 h275) y_X12_helpfulPager tw2148 dL_law_2778 rfl (st := []) rfl (Nat.le_of_ble_eq_true rfl) (Nat.le_of_ble_eq_true rfl) (Nat.le_of_ble_eq_true rfl)) (fun x297 h276 => ?_)
      refine g_istore (pc := 2781) (lv' := [(6, .int x297), (5, .int x295), (0, .ref (e_ca E)), (1, .ref (e_z E + x1)), (2, .ref (e_z E + x2)), (3, .ref (e_z E + x3)), (4, .int x4)]) dL_law_2781 (Nat.le_of_ble_eq_true rfl) rfl ?_
      refine g_aload_n (pc := 2783) dL_law_2783 4 rfl ?_
      refine g_gS (fun hs => ?_)
      refine g_bRi (pc := 2784) (c_V cl12 hs (p_X12_thrown hl x2 h276) y_X12_thrown tw1766 dL_law_2784 rfl (st := []) rfl (Nat.le_of_ble_eq_true rfl) (Nat.le_of_ble_eq_true rfl) (Nat.le_of_ble_eq_true rfl)) (fun x298 h277 => ?_)
      refine g_iload (pc := 2787) dL_law_2787 1 rfl ?_
      refine g_icmpeq (pc := 2789) (tgt := 2794) dL_law_2789 rfl ?_ ?_
      · refine g_iload (pc := 2794) dL_law_2794 1 rfl ?_
        refine g_join (fun k => ∀ (h278 : aH), J_L_law l E n0 m0 2811 [(0, .ref (e_ca E)), (1, .ref (e_z E + x1)), (2, .ref (e_z E + x2)), (3, .ref (e_z E + x3)), (4, .int x4)] [] h278 (k h278)) (fun h278 => ?_) (fun k2811 hk2811 => ?_)
        · refine g_goto (pc := 2811) (tgt := 3562) dL_law_2811 rfl ?_
          exact hk3562 h278
        refine g_ifne (pc := 2796) (tgt := 2811) dL_law_2796 rfl ?_ ?_
        · refine g_aload_n (pc := 2799) dL_law_2799 5 rfl ?_
          refine g_iconst (pc := 2800) dL_law_2800 ci_0 ?_
          refine g_lald (pc := 2801) dL_law_2801 (fun x299 => ?_)
          refine g_iload (pc := 2802) dL_law_2802 0 rfl ?_
          refine g_i2l (pc := 2804) dL_law_2804 ?_
          refine g_lcmp (pc := 2805) dL_law_2805 ?_
          refine g_ifeq (pc := 2806) (tgt := 2811) dL_law_2806 rfl ?_ ?_
          · refine g_lv [2, 3, 4, 5, 6] rfl ?_
            exact hk2811 h277
          · refine g_lv [] rfl ?_
            exact hk2809 h277
        · refine g_lv [2, 3, 4, 5, 6] rfl ?_
          exact hk2811 h277
      · refine g_lv [] rfl ?_
        exact hk2792 h277
    refine g_swI (fun e43 => ?_) (fun e43 => ?_)
    · refine g_swIn (pc := 40) (tgt := 2814) (off := 2774) dL_law_40 (by omega) (by omega) (by rw [e43]; rfl) rfl ?_
      refine g_aload_n (pc := 2814) dL_law_2814 1 rfl ?_
      refine g_aload_n (pc := 2815) dL_law_2815 0 rfl ?_
      refine g_iload (pc := 2816) dL_law_2816 4 rfl ?_
      refine g_iconst (pc := 2818) dL_law_2818 ci_1 ?_
      refine g_iadd (pc := 2819) dL_law_2819 ?_
      refine g_sld (pc := 2820) dL_law_2820 (fun x300 => ?_)
      refine g_aload_n (pc := 2821) dL_law_2821 3 rfl ?_
      refine g_bRi (pc := 2822) (c_SX (p_L_helpfulPerson hl x1 x300 x3 h111) y_L_helpfulPerson tw1397 dL_law_2822 rfl (st := []) rfl (Nat.le_of_ble_eq_true rfl) (Nat.le_of_ble_eq_true rfl) (Nat.le_of_ble_eq_true rfl)) (fun x301 h279 => ?_)
      refine g_istore (pc := 2825) (lv' := [(5, .int x301), (0, .ref (e_ca E)), (1, .ref (e_z E + x1)), (2, .ref (e_z E + x2)), (3, .ref (e_z E + x3)), (4, .int x4)]) dL_law_2825 (Nat.le_of_ble_eq_true rfl) rfl ?_
      refine g_aload_n (pc := 2827) dL_law_2827 3 rfl ?_
      refine g_aload_n (pc := 2828) dL_law_2828 1 rfl ?_
      refine g_iload (pc := 2829) dL_law_2829 5 rfl ?_
      refine g_iconst (pc := 2831) dL_law_2831 ci_1 ?_
      refine g_iadd (pc := 2832) dL_law_2832 ?_
      refine g_sld (pc := 2833) dL_law_2833 (fun x302 => ?_)
      refine g_gS (fun hs => ?_)
      refine g_bRi (pc := 2834) (c_V cl12 hs (p_X12_helpfulPerson hl x2 x302 h279) y_X12_helpfulPerson tw2160 dL_law_2834 rfl (st := []) rfl (Nat.le_of_ble_eq_true rfl) (Nat.le_of_ble_eq_true rfl) (Nat.le_of_ble_eq_true rfl)) (fun x303 h280 => ?_)
      refine g_istore (pc := 2837) (lv' := [(6, .int x303), (5, .int x301), (0, .ref (e_ca E)), (1, .ref (e_z E + x1)), (2, .ref (e_z E + x2)), (3, .ref (e_z E + x3)), (4, .int x4)]) dL_law_2837 (Nat.le_of_ble_eq_true rfl) rfl ?_
      refine g_aload_n (pc := 2839) dL_law_2839 4 rfl ?_
      refine g_gS (fun hs => ?_)
      refine g_bRi (pc := 2840) (c_V cl12 hs (p_X12_thrown hl x2 h280) y_X12_thrown tw1766 dL_law_2840 rfl (st := []) rfl (Nat.le_of_ble_eq_true rfl) (Nat.le_of_ble_eq_true rfl) (Nat.le_of_ble_eq_true rfl)) (fun x304 h281 => ?_)
      refine g_iload (pc := 2843) dL_law_2843 1 rfl ?_
      refine g_icmpeq (pc := 2845) (tgt := 2850) dL_law_2845 rfl ?_ ?_
      · refine g_iload (pc := 2850) dL_law_2850 1 rfl ?_
        refine g_join (fun k => ∀ (h282 : aH), J_L_law l E n0 m0 2867 [(0, .ref (e_ca E)), (1, .ref (e_z E + x1)), (2, .ref (e_z E + x2)), (3, .ref (e_z E + x3)), (4, .int x4)] [] h282 (k h282)) (fun h282 => ?_) (fun k2867 hk2867 => ?_)
        · refine g_goto (pc := 2867) (tgt := 3562) dL_law_2867 rfl ?_
          exact hk3562 h282
        refine g_ifne (pc := 2852) (tgt := 2867) dL_law_2852 rfl ?_ ?_
        · refine g_aload_n (pc := 2855) dL_law_2855 5 rfl ?_
          refine g_iconst (pc := 2856) dL_law_2856 ci_0 ?_
          refine g_lald (pc := 2857) dL_law_2857 (fun x305 => ?_)
          refine g_iload (pc := 2858) dL_law_2858 0 rfl ?_
          refine g_i2l (pc := 2860) dL_law_2860 ?_
          refine g_lcmp (pc := 2861) dL_law_2861 ?_
          refine g_ifeq (pc := 2862) (tgt := 2867) dL_law_2862 rfl ?_ ?_
          · refine g_lv [2, 3, 4, 5, 6] rfl ?_
            exact hk2867 h281
          · refine g_lv [] rfl ?_
            exact hk2865 h281
        · refine g_lv [2, 3, 4, 5, 6] rfl ?_
          exact hk2867 h281
      · refine g_lv [] rfl ?_
        exact hk2848 h281
    refine g_swI (fun e44 => ?_) (fun e44 => ?_)
    · refine g_swIn (pc := 40) (tgt := 2870) (off := 2830) dL_law_40 (by omega) (by omega) (by rw [e44]; rfl) rfl ?_
      refine g_aload_n (pc := 2870) dL_law_2870 1 rfl ?_
      refine g_aload_n (pc := 2871) dL_law_2871 0 rfl ?_
      refine g_iload (pc := 2872) dL_law_2872 4 rfl ?_
      refine g_iconst (pc := 2874) dL_law_2874 ci_1 ?_
      refine g_iadd (pc := 2875) dL_law_2875 ?_
      refine g_sld (pc := 2876) dL_law_2876 (fun x306 => ?_)
      refine g_aload_n (pc := 2877) dL_law_2877 3 rfl ?_
      refine g_bRi (pc := 2878) (c_SX (p_L_call hl x1 x306 x3 h111) y_L_call tw1404 dL_law_2878 rfl (st := []) rfl (Nat.le_of_ble_eq_true rfl) (Nat.le_of_ble_eq_true rfl) (Nat.le_of_ble_eq_true rfl)) (fun x307 h283 => ?_)
      refine g_istore (pc := 2881) (lv' := [(5, .int x307), (0, .ref (e_ca E)), (1, .ref (e_z E + x1)), (2, .ref (e_z E + x2)), (3, .ref (e_z E + x3)), (4, .int x4)]) dL_law_2881 (Nat.le_of_ble_eq_true rfl) rfl ?_
      refine g_aload_n (pc := 2883) dL_law_2883 3 rfl ?_
      refine g_aload_n (pc := 2884) dL_law_2884 1 rfl ?_
      refine g_iload (pc := 2885) dL_law_2885 5 rfl ?_
      refine g_iconst (pc := 2887) dL_law_2887 ci_1 ?_
      refine g_iadd (pc := 2888) dL_law_2888 ?_
      refine g_sld (pc := 2889) dL_law_2889 (fun x308 => ?_)
      refine g_gS (fun hs => ?_)
      refine g_bRi (pc := 2890) (c_V cl12 hs (p_X12_call hl x2 x308 h283) y_X12_call tw2212 dL_law_2890 rfl (st := []) rfl (Nat.le_of_ble_eq_true rfl) (Nat.le_of_ble_eq_true rfl) (Nat.le_of_ble_eq_true rfl)) (fun x309 h284 => ?_)
      refine g_istore (pc := 2893) (lv' := [(6, .int x309), (5, .int x307), (0, .ref (e_ca E)), (1, .ref (e_z E + x1)), (2, .ref (e_z E + x2)), (3, .ref (e_z E + x3)), (4, .int x4)]) dL_law_2893 (Nat.le_of_ble_eq_true rfl) rfl ?_
      refine g_aload_n (pc := 2895) dL_law_2895 4 rfl ?_
      refine g_gS (fun hs => ?_)
      refine g_bRi (pc := 2896) (c_V cl12 hs (p_X12_thrown hl x2 h284) y_X12_thrown tw1766 dL_law_2896 rfl (st := []) rfl (Nat.le_of_ble_eq_true rfl) (Nat.le_of_ble_eq_true rfl) (Nat.le_of_ble_eq_true rfl)) (fun x310 h285 => ?_)
      refine g_iload (pc := 2899) dL_law_2899 1 rfl ?_
      refine g_icmpeq (pc := 2901) (tgt := 2906) dL_law_2901 rfl ?_ ?_
      · refine g_iload (pc := 2906) dL_law_2906 1 rfl ?_
        refine g_join (fun k => ∀ (h286 : aH), J_L_law l E n0 m0 2923 [(0, .ref (e_ca E)), (1, .ref (e_z E + x1)), (2, .ref (e_z E + x2)), (3, .ref (e_z E + x3)), (4, .int x4)] [] h286 (k h286)) (fun h286 => ?_) (fun k2923 hk2923 => ?_)
        · refine g_goto (pc := 2923) (tgt := 3562) dL_law_2923 rfl ?_
          exact hk3562 h286
        refine g_ifne (pc := 2908) (tgt := 2923) dL_law_2908 rfl ?_ ?_
        · refine g_aload_n (pc := 2911) dL_law_2911 5 rfl ?_
          refine g_iconst (pc := 2912) dL_law_2912 ci_0 ?_
          refine g_lald (pc := 2913) dL_law_2913 (fun x311 => ?_)
          refine g_iload (pc := 2914) dL_law_2914 0 rfl ?_
          refine g_i2l (pc := 2916) dL_law_2916 ?_
          refine g_lcmp (pc := 2917) dL_law_2917 ?_
          refine g_ifeq (pc := 2918) (tgt := 2923) dL_law_2918 rfl ?_ ?_
          · refine g_lv [2, 3, 4, 5, 6] rfl ?_
            exact hk2923 h285
          · refine g_lv [] rfl ?_
            exact hk2921 h285
        · refine g_lv [2, 3, 4, 5, 6] rfl ?_
          exact hk2923 h285
      · refine g_lv [] rfl ?_
        exact hk2904 h285
    refine g_swI (fun e45 => ?_) (fun e45 => ?_)
    · refine g_swIn (pc := 40) (tgt := 2926) (off := 2886) dL_law_40 (by omega) (by omega) (by rw [e45]; rfl) rfl ?_
      refine g_aload_n (pc := 2926) dL_law_2926 1 rfl ?_
      refine g_aload_n (pc := 2927) dL_law_2927 0 rfl ?_
      refine g_iload (pc := 2928) dL_law_2928 4 rfl ?_
      refine g_iconst (pc := 2930) dL_law_2930 ci_1 ?_
      refine g_iadd (pc := 2931) dL_law_2931 ?_
      refine g_sld (pc := 2932) dL_law_2932 (fun x312 => ?_)
      refine g_aload_n (pc := 2933) dL_law_2933 0 rfl ?_
      refine g_iload (pc := 2934) dL_law_2934 4 rfl ?_
      refine g_iconst (pc := 2936) dL_law_2936 ci_2 ?_
      refine g_iadd (pc := 2937) dL_law_2937 ?_
      refine g_sld (pc := 2938) dL_law_2938 (fun x313 => ?_)
      refine g_aload_n (pc := 2939) dL_law_2939 0 rfl ?_
      refine g_iload (pc := 2940) dL_law_2940 4 rfl ?_
      refine g_iconst (pc := 2942) dL_law_2942 ci_3 ?_
      refine g_iadd (pc := 2943) dL_law_2943 ?_
      refine g_sld (pc := 2944) dL_law_2944 (fun x314 => ?_)
      refine g_aload_n (pc := 2945) dL_law_2945 3 rfl ?_
      refine g_bRi (pc := 2946) (c_SX (p_L_handOn hl x1 x312 x313 x314 x3 h111) y_L_handOn tw1451 dL_law_2946 rfl (st := []) rfl (Nat.le_of_ble_eq_true rfl) (Nat.le_of_ble_eq_true rfl) (Nat.le_of_ble_eq_true rfl)) (fun x315 h287 => ?_)
      refine g_istore (pc := 2949) (lv' := [(5, .int x315), (0, .ref (e_ca E)), (1, .ref (e_z E + x1)), (2, .ref (e_z E + x2)), (3, .ref (e_z E + x3)), (4, .int x4)]) dL_law_2949 (Nat.le_of_ble_eq_true rfl) rfl ?_
      refine g_aload_n (pc := 2951) dL_law_2951 3 rfl ?_
      refine g_aload_n (pc := 2952) dL_law_2952 1 rfl ?_
      refine g_iload (pc := 2953) dL_law_2953 5 rfl ?_
      refine g_iconst (pc := 2955) dL_law_2955 ci_1 ?_
      refine g_iadd (pc := 2956) dL_law_2956 ?_
      refine g_sld (pc := 2957) dL_law_2957 (fun x316 => ?_)
      refine g_aload_n (pc := 2958) dL_law_2958 1 rfl ?_
      refine g_iload (pc := 2959) dL_law_2959 5 rfl ?_
      refine g_iconst (pc := 2961) dL_law_2961 ci_2 ?_
      refine g_iadd (pc := 2962) dL_law_2962 ?_
      refine g_sld (pc := 2963) dL_law_2963 (fun x317 => ?_)
      refine g_aload_n (pc := 2964) dL_law_2964 1 rfl ?_
      refine g_iload (pc := 2965) dL_law_2965 5 rfl ?_
      refine g_iconst (pc := 2967) dL_law_2967 ci_3 ?_
      refine g_iadd (pc := 2968) dL_law_2968 ?_
      refine g_sld (pc := 2969) dL_law_2969 (fun x318 => ?_)
      refine g_gS (fun hs => ?_)
      refine g_bRi (pc := 2970) (c_V cl12 hs (p_X12_handOn hl x2 x316 x317 x318 h287) y_X12_handOn tw2224 dL_law_2970 rfl (st := []) rfl (Nat.le_of_ble_eq_true rfl) (Nat.le_of_ble_eq_true rfl) (Nat.le_of_ble_eq_true rfl)) (fun x319 h288 => ?_)
      refine g_istore (pc := 2973) (lv' := [(6, .int x319), (5, .int x315), (0, .ref (e_ca E)), (1, .ref (e_z E + x1)), (2, .ref (e_z E + x2)), (3, .ref (e_z E + x3)), (4, .int x4)]) dL_law_2973 (Nat.le_of_ble_eq_true rfl) rfl ?_
      refine g_aload_n (pc := 2975) dL_law_2975 4 rfl ?_
      refine g_gS (fun hs => ?_)
      refine g_bRi (pc := 2976) (c_V cl12 hs (p_X12_thrown hl x2 h288) y_X12_thrown tw1766 dL_law_2976 rfl (st := []) rfl (Nat.le_of_ble_eq_true rfl) (Nat.le_of_ble_eq_true rfl) (Nat.le_of_ble_eq_true rfl)) (fun x320 h289 => ?_)
      refine g_iload (pc := 2979) dL_law_2979 1 rfl ?_
      refine g_icmpeq (pc := 2981) (tgt := 2986) dL_law_2981 rfl ?_ ?_
      · refine g_iload (pc := 2986) dL_law_2986 1 rfl ?_
        refine g_join (fun k => ∀ (h290 : aH), J_L_law l E n0 m0 3003 [(0, .ref (e_ca E)), (1, .ref (e_z E + x1)), (2, .ref (e_z E + x2)), (3, .ref (e_z E + x3)), (4, .int x4)] [] h290 (k h290)) (fun h290 => ?_) (fun k3003 hk3003 => ?_)
        · refine g_goto (pc := 3003) (tgt := 3562) dL_law_3003 rfl ?_
          exact hk3562 h290
        refine g_ifne (pc := 2988) (tgt := 3003) dL_law_2988 rfl ?_ ?_
        · refine g_aload_n (pc := 2991) dL_law_2991 5 rfl ?_
          refine g_iconst (pc := 2992) dL_law_2992 ci_0 ?_
          refine g_lald (pc := 2993) dL_law_2993 (fun x321 => ?_)
          refine g_iload (pc := 2994) dL_law_2994 0 rfl ?_
          refine g_i2l (pc := 2996) dL_law_2996 ?_
          refine g_lcmp (pc := 2997) dL_law_2997 ?_
          refine g_ifeq (pc := 2998) (tgt := 3003) dL_law_2998 rfl ?_ ?_
          · refine g_lv [2, 3, 4, 5, 6] rfl ?_
            exact hk3003 h289
          · refine g_lv [] rfl ?_
            exact hk3001 h289
        · refine g_lv [2, 3, 4, 5, 6] rfl ?_
          exact hk3003 h289
      · refine g_lv [] rfl ?_
        exact hk2984 h289
    refine g_swI (fun e46 => ?_) (fun e46 => ?_)
    · refine g_swIn (pc := 40) (tgt := 3006) (off := 2966) dL_law_40 (by omega) (by omega) (by rw [e46]; rfl) rfl ?_
      refine g_aload_n (pc := 3006) dL_law_3006 1 rfl ?_
      refine g_aload_n (pc := 3007) dL_law_3007 0 rfl ?_
      refine g_iload (pc := 3008) dL_law_3008 4 rfl ?_
      refine g_iconst (pc := 3010) dL_law_3010 ci_1 ?_
      refine g_iadd (pc := 3011) dL_law_3011 ?_
      refine g_sld (pc := 3012) dL_law_3012 (fun x322 => ?_)
      refine g_aload_n (pc := 3013) dL_law_3013 3 rfl ?_
      refine g_bRi (pc := 3014) (c_SX (p_L_giveBack hl x1 x322 x3 h111) y_L_giveBack tw1459 dL_law_3014 rfl (st := []) rfl (Nat.le_of_ble_eq_true rfl) (Nat.le_of_ble_eq_true rfl) (Nat.le_of_ble_eq_true rfl)) (fun x323 h291 => ?_)
      refine g_istore (pc := 3017) (lv' := [(5, .int x323), (0, .ref (e_ca E)), (1, .ref (e_z E + x1)), (2, .ref (e_z E + x2)), (3, .ref (e_z E + x3)), (4, .int x4)]) dL_law_3017 (Nat.le_of_ble_eq_true rfl) rfl ?_
      refine g_aload_n (pc := 3019) dL_law_3019 3 rfl ?_
      refine g_aload_n (pc := 3020) dL_law_3020 1 rfl ?_
      refine g_iload (pc := 3021) dL_law_3021 5 rfl ?_
      refine g_iconst (pc := 3023) dL_law_3023 ci_1 ?_
      refine g_iadd (pc := 3024) dL_law_3024 ?_
      refine g_sld (pc := 3025) dL_law_3025 (fun x324 => ?_)
      refine g_gS (fun hs => ?_)
      refine g_bRi (pc := 3026) (c_V cl12 hs (p_X12_giveBack hl x2 x324 h291) y_X12_giveBack tw2228 dL_law_3026 rfl (st := []) rfl (Nat.le_of_ble_eq_true rfl) (Nat.le_of_ble_eq_true rfl) (Nat.le_of_ble_eq_true rfl)) (fun x325 h292 => ?_)
      refine g_istore (pc := 3029) (lv' := [(6, .int x325), (5, .int x323), (0, .ref (e_ca E)), (1, .ref (e_z E + x1)), (2, .ref (e_z E + x2)), (3, .ref (e_z E + x3)), (4, .int x4)]) dL_law_3029 (Nat.le_of_ble_eq_true rfl) rfl ?_
      refine g_aload_n (pc := 3031) dL_law_3031 4 rfl ?_
      refine g_gS (fun hs => ?_)
      refine g_bRi (pc := 3032) (c_V cl12 hs (p_X12_thrown hl x2 h292) y_X12_thrown tw1766 dL_law_3032 rfl (st := []) rfl (Nat.le_of_ble_eq_true rfl) (Nat.le_of_ble_eq_true rfl) (Nat.le_of_ble_eq_true rfl)) (fun x326 h293 => ?_)
      refine g_iload (pc := 3035) dL_law_3035 1 rfl ?_
      refine g_icmpeq (pc := 3037) (tgt := 3042) dL_law_3037 rfl ?_ ?_
      · refine g_iload (pc := 3042) dL_law_3042 1 rfl ?_
        refine g_join (fun k => ∀ (h294 : aH), J_L_law l E n0 m0 3059 [(0, .ref (e_ca E)), (1, .ref (e_z E + x1)), (2, .ref (e_z E + x2)), (3, .ref (e_z E + x3)), (4, .int x4)] [] h294 (k h294)) (fun h294 => ?_) (fun k3059 hk3059 => ?_)
        · refine g_goto (pc := 3059) (tgt := 3562) dL_law_3059 rfl ?_
          exact hk3562 h294
        refine g_ifne (pc := 3044) (tgt := 3059) dL_law_3044 rfl ?_ ?_
        · refine g_aload_n (pc := 3047) dL_law_3047 5 rfl ?_
          refine g_iconst (pc := 3048) dL_law_3048 ci_0 ?_
          refine g_lald (pc := 3049) dL_law_3049 (fun x327 => ?_)
          refine g_iload (pc := 3050) dL_law_3050 0 rfl ?_
          refine g_i2l (pc := 3052) dL_law_3052 ?_
          refine g_lcmp (pc := 3053) dL_law_3053 ?_
          refine g_ifeq (pc := 3054) (tgt := 3059) dL_law_3054 rfl ?_ ?_
          · refine g_lv [2, 3, 4, 5, 6] rfl ?_
            exact hk3059 h293
          · refine g_lv [] rfl ?_
            exact hk3057 h293
        · refine g_lv [2, 3, 4, 5, 6] rfl ?_
          exact hk3059 h293
      · refine g_lv [] rfl ?_
        exact hk3040 h293
    refine g_swI (fun e47 => ?_) (fun e47 => ?_)
    · refine g_swIn (pc := 40) (tgt := 3062) (off := 3022) dL_law_40 (by omega) (by omega) (by rw [e47]; rfl) rfl ?_
      refine g_aload_n (pc := 3062) dL_law_3062 1 rfl ?_
      refine g_aload_n (pc := 3063) dL_law_3063 0 rfl ?_
      refine g_iload (pc := 3064) dL_law_3064 4 rfl ?_
      refine g_iconst (pc := 3066) dL_law_3066 ci_1 ?_
      refine g_iadd (pc := 3067) dL_law_3067 ?_
      refine g_sld (pc := 3068) dL_law_3068 (fun x328 => ?_)
      refine g_aload_n (pc := 3069) dL_law_3069 3 rfl ?_
      refine g_bRi (pc := 3070) (c_SX (p_L_pass hl x1 x328 x3 h111) y_L_pass tw1467 dL_law_3070 rfl (st := []) rfl (Nat.le_of_ble_eq_true rfl) (Nat.le_of_ble_eq_true rfl) (Nat.le_of_ble_eq_true rfl)) (fun x329 h295 => ?_)
      refine g_istore (pc := 3073) (lv' := [(5, .int x329), (0, .ref (e_ca E)), (1, .ref (e_z E + x1)), (2, .ref (e_z E + x2)), (3, .ref (e_z E + x3)), (4, .int x4)]) dL_law_3073 (Nat.le_of_ble_eq_true rfl) rfl ?_
      refine g_aload_n (pc := 3075) dL_law_3075 3 rfl ?_
      refine g_aload_n (pc := 3076) dL_law_3076 1 rfl ?_
      refine g_iload (pc := 3077) dL_law_3077 5 rfl ?_
      refine g_iconst (pc := 3079) dL_law_3079 ci_1 ?_
      refine g_iadd (pc := 3080) dL_law_3080 ?_
      refine g_sld (pc := 3081) dL_law_3081 (fun x330 => ?_)
      refine g_gS (fun hs => ?_)
      refine g_bRi (pc := 3082) (c_V cl12 hs (p_X12_pass hl x2 x330 h295) y_X12_pass tw2232 dL_law_3082 rfl (st := []) rfl (Nat.le_of_ble_eq_true rfl) (Nat.le_of_ble_eq_true rfl) (Nat.le_of_ble_eq_true rfl)) (fun x331 h296 => ?_)
      refine g_istore (pc := 3085) (lv' := [(6, .int x331), (5, .int x329), (0, .ref (e_ca E)), (1, .ref (e_z E + x1)), (2, .ref (e_z E + x2)), (3, .ref (e_z E + x3)), (4, .int x4)]) dL_law_3085 (Nat.le_of_ble_eq_true rfl) rfl ?_
      refine g_aload_n (pc := 3087) dL_law_3087 4 rfl ?_
      refine g_gS (fun hs => ?_)
      refine g_bRi (pc := 3088) (c_V cl12 hs (p_X12_thrown hl x2 h296) y_X12_thrown tw1766 dL_law_3088 rfl (st := []) rfl (Nat.le_of_ble_eq_true rfl) (Nat.le_of_ble_eq_true rfl) (Nat.le_of_ble_eq_true rfl)) (fun x332 h297 => ?_)
      refine g_iload (pc := 3091) dL_law_3091 1 rfl ?_
      refine g_icmpeq (pc := 3093) (tgt := 3098) dL_law_3093 rfl ?_ ?_
      · refine g_iload (pc := 3098) dL_law_3098 1 rfl ?_
        refine g_join (fun k => ∀ (h298 : aH), J_L_law l E n0 m0 3115 [(0, .ref (e_ca E)), (1, .ref (e_z E + x1)), (2, .ref (e_z E + x2)), (3, .ref (e_z E + x3)), (4, .int x4)] [] h298 (k h298)) (fun h298 => ?_) (fun k3115 hk3115 => ?_)
        · refine g_goto (pc := 3115) (tgt := 3562) dL_law_3115 rfl ?_
          exact hk3562 h298
        refine g_ifne (pc := 3100) (tgt := 3115) dL_law_3100 rfl ?_ ?_
        · refine g_aload_n (pc := 3103) dL_law_3103 5 rfl ?_
          refine g_iconst (pc := 3104) dL_law_3104 ci_0 ?_
          refine g_lald (pc := 3105) dL_law_3105 (fun x333 => ?_)
          refine g_iload (pc := 3106) dL_law_3106 0 rfl ?_
          refine g_i2l (pc := 3108) dL_law_3108 ?_
          refine g_lcmp (pc := 3109) dL_law_3109 ?_
          refine g_ifeq (pc := 3110) (tgt := 3115) dL_law_3110 rfl ?_ ?_
          · refine g_lv [2, 3, 4, 5, 6] rfl ?_
            exact hk3115 h297
          · refine g_lv [] rfl ?_
            exact hk3113 h297
        · refine g_lv [2, 3, 4, 5, 6] rfl ?_
          exact hk3115 h297
      · refine g_lv [] rfl ?_
        exact hk3096 h297
    refine g_swI (fun e48 => ?_) (fun e48 => ?_)
    · refine g_swIn (pc := 40) (tgt := 3118) (off := 3078) dL_law_40 (by omega) (by omega) (by rw [e48]; rfl) rfl ?_
      refine g_aload_n (pc := 3118) dL_law_3118 1 rfl ?_
      refine g_aload_n (pc := 3119) dL_law_3119 0 rfl ?_
      refine g_iload (pc := 3120) dL_law_3120 4 rfl ?_
      refine g_iconst (pc := 3122) dL_law_3122 ci_1 ?_
      refine g_iadd (pc := 3123) dL_law_3123 ?_
      refine g_sld (pc := 3124) dL_law_3124 (fun x334 => ?_)
      refine g_aload_n (pc := 3125) dL_law_3125 0 rfl ?_
      refine g_iload (pc := 3126) dL_law_3126 4 rfl ?_
      refine g_iconst (pc := 3128) dL_law_3128 ci_2 ?_
      refine g_iadd (pc := 3129) dL_law_3129 ?_
      refine g_sld (pc := 3130) dL_law_3130 (fun x335 => ?_)
      refine g_aload_n (pc := 3131) dL_law_3131 0 rfl ?_
      refine g_iload (pc := 3132) dL_law_3132 4 rfl ?_
      refine g_iconst (pc := 3134) dL_law_3134 ci_3 ?_
      refine g_iadd (pc := 3135) dL_law_3135 ?_
      refine g_sld (pc := 3136) dL_law_3136 (fun x336 => ?_)
      refine g_aload_n (pc := 3137) dL_law_3137 3 rfl ?_
      refine g_bRi (pc := 3138) (c_SX (p_L_swapPlaces hl x1 x334 x335 x336 x3 h111) y_L_swapPlaces tw1475 dL_law_3138 rfl (st := []) rfl (Nat.le_of_ble_eq_true rfl) (Nat.le_of_ble_eq_true rfl) (Nat.le_of_ble_eq_true rfl)) (fun x337 h299 => ?_)
      refine g_istore (pc := 3141) (lv' := [(5, .int x337), (0, .ref (e_ca E)), (1, .ref (e_z E + x1)), (2, .ref (e_z E + x2)), (3, .ref (e_z E + x3)), (4, .int x4)]) dL_law_3141 (Nat.le_of_ble_eq_true rfl) rfl ?_
      refine g_aload_n (pc := 3143) dL_law_3143 3 rfl ?_
      refine g_aload_n (pc := 3144) dL_law_3144 1 rfl ?_
      refine g_iload (pc := 3145) dL_law_3145 5 rfl ?_
      refine g_iconst (pc := 3147) dL_law_3147 ci_1 ?_
      refine g_iadd (pc := 3148) dL_law_3148 ?_
      refine g_sld (pc := 3149) dL_law_3149 (fun x338 => ?_)
      refine g_aload_n (pc := 3150) dL_law_3150 1 rfl ?_
      refine g_iload (pc := 3151) dL_law_3151 5 rfl ?_
      refine g_iconst (pc := 3153) dL_law_3153 ci_2 ?_
      refine g_iadd (pc := 3154) dL_law_3154 ?_
      refine g_sld (pc := 3155) dL_law_3155 (fun x339 => ?_)
      refine g_aload_n (pc := 3156) dL_law_3156 1 rfl ?_
      refine g_iload (pc := 3157) dL_law_3157 5 rfl ?_
      refine g_iconst (pc := 3159) dL_law_3159 ci_3 ?_
      refine g_iadd (pc := 3160) dL_law_3160 ?_
      refine g_sld (pc := 3161) dL_law_3161 (fun x340 => ?_)
      refine g_gS (fun hs => ?_)
      refine g_bRi (pc := 3162) (c_V cl12 hs (p_X12_swapPlaces hl x2 x338 x339 x340 h299) y_X12_swapPlaces tw2236 dL_law_3162 rfl (st := []) rfl (Nat.le_of_ble_eq_true rfl) (Nat.le_of_ble_eq_true rfl) (Nat.le_of_ble_eq_true rfl)) (fun x341 h300 => ?_)
      refine g_istore (pc := 3165) (lv' := [(6, .int x341), (5, .int x337), (0, .ref (e_ca E)), (1, .ref (e_z E + x1)), (2, .ref (e_z E + x2)), (3, .ref (e_z E + x3)), (4, .int x4)]) dL_law_3165 (Nat.le_of_ble_eq_true rfl) rfl ?_
      refine g_aload_n (pc := 3167) dL_law_3167 4 rfl ?_
      refine g_gS (fun hs => ?_)
      refine g_bRi (pc := 3168) (c_V cl12 hs (p_X12_thrown hl x2 h300) y_X12_thrown tw1766 dL_law_3168 rfl (st := []) rfl (Nat.le_of_ble_eq_true rfl) (Nat.le_of_ble_eq_true rfl) (Nat.le_of_ble_eq_true rfl)) (fun x342 h301 => ?_)
      refine g_iload (pc := 3171) dL_law_3171 1 rfl ?_
      refine g_icmpeq (pc := 3173) (tgt := 3178) dL_law_3173 rfl ?_ ?_
      · refine g_iload (pc := 3178) dL_law_3178 1 rfl ?_
        refine g_join (fun k => ∀ (h302 : aH), J_L_law l E n0 m0 3195 [(0, .ref (e_ca E)), (1, .ref (e_z E + x1)), (2, .ref (e_z E + x2)), (3, .ref (e_z E + x3)), (4, .int x4)] [] h302 (k h302)) (fun h302 => ?_) (fun k3195 hk3195 => ?_)
        · refine g_goto (pc := 3195) (tgt := 3562) dL_law_3195 rfl ?_
          exact hk3562 h302
        refine g_ifne (pc := 3180) (tgt := 3195) dL_law_3180 rfl ?_ ?_
        · refine g_aload_n (pc := 3183) dL_law_3183 5 rfl ?_
          refine g_iconst (pc := 3184) dL_law_3184 ci_0 ?_
          refine g_lald (pc := 3185) dL_law_3185 (fun x343 => ?_)
          refine g_iload (pc := 3186) dL_law_3186 0 rfl ?_
          refine g_i2l (pc := 3188) dL_law_3188 ?_
          refine g_lcmp (pc := 3189) dL_law_3189 ?_
          refine g_ifeq (pc := 3190) (tgt := 3195) dL_law_3190 rfl ?_ ?_
          · refine g_lv [2, 3, 4, 5, 6] rfl ?_
            exact hk3195 h301
          · refine g_lv [] rfl ?_
            exact hk3193 h301
        · refine g_lv [2, 3, 4, 5, 6] rfl ?_
          exact hk3195 h301
      · refine g_lv [] rfl ?_
        exact hk3176 h301
    refine g_swI (fun e49 => ?_) (fun e49 => ?_)
    · refine g_swIn (pc := 40) (tgt := 3198) (off := 3158) dL_law_40 (by omega) (by omega) (by rw [e49]; rfl) rfl ?_
      refine g_aload_n (pc := 3198) dL_law_3198 1 rfl ?_
      refine g_aload_n (pc := 3199) dL_law_3199 0 rfl ?_
      refine g_iload (pc := 3200) dL_law_3200 4 rfl ?_
      refine g_iconst (pc := 3202) dL_law_3202 ci_1 ?_
      refine g_iadd (pc := 3203) dL_law_3203 ?_
      refine g_sld (pc := 3204) dL_law_3204 (fun x344 => ?_)
      refine g_aload_n (pc := 3205) dL_law_3205 0 rfl ?_
      refine g_iload (pc := 3206) dL_law_3206 4 rfl ?_
      refine g_iconst (pc := 3208) dL_law_3208 ci_2 ?_
      refine g_iadd (pc := 3209) dL_law_3209 ?_
      refine g_sld (pc := 3210) dL_law_3210 (fun x345 => ?_)
      refine g_join (fun k => ∀ (x346 : Int32) (h303 : aH), J_L_law l E n0 m0 3219 [(0, .ref (e_ca E)), (1, .ref (e_z E + x1)), (2, .ref (e_z E + x2)), (3, .ref (e_z E + x3)), (4, .int x4)] [.int x346, .int x344, .ref (e_z E + x1)] h303 (k x346 h303)) (fun x346 h303 => ?_) (fun k3219 hk3219 => ?_)
      · refine g_aload_n (pc := 3219) dL_law_3219 3 rfl ?_
        refine g_bRi (pc := 3220) (c_SX (p_L_excuse hl x1 x344 x346 x3 h303) y_L_excuse tw1485 dL_law_3220 rfl (st := []) rfl (Nat.le_of_ble_eq_true rfl) (Nat.le_of_ble_eq_true rfl) (Nat.le_of_ble_eq_true rfl)) (fun x347 h304 => ?_)
        refine g_istore (pc := 3223) (lv' := [(5, .int x347), (0, .ref (e_ca E)), (1, .ref (e_z E + x1)), (2, .ref (e_z E + x2)), (3, .ref (e_z E + x3)), (4, .int x4)]) dL_law_3223 (Nat.le_of_ble_eq_true rfl) rfl ?_
        refine g_aload_n (pc := 3225) dL_law_3225 3 rfl ?_
        refine g_aload_n (pc := 3226) dL_law_3226 1 rfl ?_
        refine g_iload (pc := 3227) dL_law_3227 5 rfl ?_
        refine g_iconst (pc := 3229) dL_law_3229 ci_1 ?_
        refine g_iadd (pc := 3230) dL_law_3230 ?_
        refine g_sld (pc := 3231) dL_law_3231 (fun x348 => ?_)
        refine g_aload_n (pc := 3232) dL_law_3232 1 rfl ?_
        refine g_iload (pc := 3233) dL_law_3233 5 rfl ?_
        refine g_iconst (pc := 3235) dL_law_3235 ci_2 ?_
        refine g_iadd (pc := 3236) dL_law_3236 ?_
        refine g_sld (pc := 3237) dL_law_3237 (fun x349 => ?_)
        refine g_join (fun k => ∀ (x350 : Int32) (h305 : aH), J_L_law l E n0 m0 3246 [(0, .ref (e_ca E)), (1, .ref (e_z E + x1)), (2, .ref (e_z E + x2)), (3, .ref (e_z E + x3)), (4, .int x4), (5, .int x347)] [.int x350, .int x348, .ref (e_z E + x2)] h305 (k x350 h305)) (fun x350 h305 => ?_) (fun k3246 hk3246 => ?_)
        · refine g_gS (fun hs => ?_)
          refine g_bRi (pc := 3246) (c_V cl12 hs (p_X12_excuse hl x2 x348 x350 h305) y_X12_excuse tw2240 dL_law_3246 rfl (st := []) rfl (Nat.le_of_ble_eq_true rfl) (Nat.le_of_ble_eq_true rfl) (Nat.le_of_ble_eq_true rfl)) (fun x351 h306 => ?_)
          refine g_istore (pc := 3249) (lv' := [(6, .int x351), (0, .ref (e_ca E)), (1, .ref (e_z E + x1)), (2, .ref (e_z E + x2)), (3, .ref (e_z E + x3)), (4, .int x4), (5, .int x347)]) dL_law_3249 (Nat.le_of_ble_eq_true rfl) rfl ?_
          refine g_aload_n (pc := 3251) dL_law_3251 3 rfl ?_
          refine g_gS (fun hs => ?_)
          refine g_bRi (pc := 3252) (c_V cl12 hs (p_X12_thrown hl x2 h306) y_X12_thrown tw1766 dL_law_3252 rfl (st := []) rfl (Nat.le_of_ble_eq_true rfl) (Nat.le_of_ble_eq_true rfl) (Nat.le_of_ble_eq_true rfl)) (fun x352 h307 => ?_)
          refine g_iload (pc := 3255) dL_law_3255 6 rfl ?_
          refine g_icmpeq (pc := 3257) (tgt := 3262) dL_law_3257 rfl ?_ ?_
          · refine g_iload (pc := 3262) dL_law_3262 6 rfl ?_
            refine g_join (fun k => ∀ (h308 : aH), J_L_law l E n0 m0 3279 [(0, .ref (e_ca E)), (1, .ref (e_z E + x1)), (2, .ref (e_z E + x2)), (3, .ref (e_z E + x3)), (4, .int x4)] [] h308 (k h308)) (fun h308 => ?_) (fun k3279 hk3279 => ?_)
            · refine g_goto (pc := 3279) (tgt := 3562) dL_law_3279 rfl ?_
              exact hk3562 h308
            refine g_ifne (pc := 3264) (tgt := 3279) dL_law_3264 rfl ?_ ?_
            · refine g_aload_n (pc := 3267) dL_law_3267 4 rfl ?_
              refine g_iconst (pc := 3268) dL_law_3268 ci_0 ?_
              refine g_lald (pc := 3269) dL_law_3269 (fun x353 => ?_)
              refine g_iload (pc := 3270) dL_law_3270 0 rfl ?_
              refine g_i2l (pc := 3272) dL_law_3272 ?_
              refine g_lcmp (pc := 3273) dL_law_3273 ?_
              refine g_ifeq (pc := 3274) (tgt := 3279) dL_law_3274 rfl ?_ ?_
              · refine g_lv [1, 2, 3, 4, 5] rfl ?_
                exact hk3279 h307
              · refine g_lv [] rfl ?_
                exact hk3277 h307
            · refine g_lv [1, 2, 3, 4, 5] rfl ?_
              exact hk3279 h307
          · refine g_lv [] rfl ?_
            exact hk3260 h307
        refine g_ifeq (pc := 3238) (tgt := 3245) dL_law_3238 rfl ?_ ?_
        · refine g_iconst (pc := 3245) dL_law_3245 ci_0 ?_
          refine g_lv [1, 2, 3, 4, 5, 0] rfl ?_
          exact hk3246 (0 : Int32) h304
        · refine g_iconst (pc := 3241) dL_law_3241 ci_1 ?_
          refine g_goto (pc := 3242) (tgt := 3246) dL_law_3242 rfl ?_
          refine g_lv [1, 2, 3, 4, 5, 0] rfl ?_
          exact hk3246 (1 : Int32) h304
      refine g_ifeq (pc := 3211) (tgt := 3218) dL_law_3211 rfl ?_ ?_
      · refine g_iconst (pc := 3218) dL_law_3218 ci_0 ?_
        exact hk3219 (0 : Int32) h111
      · refine g_iconst (pc := 3214) dL_law_3214 ci_1 ?_
        refine g_goto (pc := 3215) (tgt := 3219) dL_law_3215 rfl ?_
        exact hk3219 (1 : Int32) h111
    refine g_swI (fun e50 => ?_) (fun e50 => ?_)
    · refine g_swIn (pc := 40) (tgt := 3282) (off := 3242) dL_law_40 (by omega) (by omega) (by rw [e50]; rfl) rfl ?_
      refine g_aload_n (pc := 3282) dL_law_3282 1 rfl ?_
      refine g_aload_n (pc := 3283) dL_law_3283 0 rfl ?_
      refine g_iload (pc := 3284) dL_law_3284 4 rfl ?_
      refine g_iconst (pc := 3286) dL_law_3286 ci_1 ?_
      refine g_iadd (pc := 3287) dL_law_3287 ?_
      refine g_sld (pc := 3288) dL_law_3288 (fun x354 => ?_)
      refine g_aload_n (pc := 3289) dL_law_3289 0 rfl ?_
      refine g_iload (pc := 3290) dL_law_3290 4 rfl ?_
      refine g_iconst (pc := 3292) dL_law_3292 ci_2 ?_
      refine g_iadd (pc := 3293) dL_law_3293 ?_
      refine g_sld (pc := 3294) dL_law_3294 (fun x355 => ?_)
      refine g_join (fun k => ∀ (x356 : Int32) (h309 : aH), J_L_law l E n0 m0 3303 [(0, .ref (e_ca E)), (1, .ref (e_z E + x1)), (2, .ref (e_z E + x2)), (3, .ref (e_z E + x3)), (4, .int x4)] [.int x356, .int x354, .ref (e_z E + x1)] h309 (k x356 h309)) (fun x356 h309 => ?_) (fun k3303 hk3303 => ?_)
      · refine g_aload_n (pc := 3303) dL_law_3303 3 rfl ?_
        refine g_bRi (pc := 3304) (c_SX (p_L_setService hl x1 x354 x356 x3 h309) y_L_setService tw1493 dL_law_3304 rfl (st := []) rfl (Nat.le_of_ble_eq_true rfl) (Nat.le_of_ble_eq_true rfl) (Nat.le_of_ble_eq_true rfl)) (fun x357 h310 => ?_)
        refine g_istore (pc := 3307) (lv' := [(5, .int x357), (0, .ref (e_ca E)), (1, .ref (e_z E + x1)), (2, .ref (e_z E + x2)), (3, .ref (e_z E + x3)), (4, .int x4)]) dL_law_3307 (Nat.le_of_ble_eq_true rfl) rfl ?_
        refine g_aload_n (pc := 3309) dL_law_3309 3 rfl ?_
        refine g_aload_n (pc := 3310) dL_law_3310 1 rfl ?_
        refine g_iload (pc := 3311) dL_law_3311 5 rfl ?_
        refine g_iconst (pc := 3313) dL_law_3313 ci_1 ?_
        refine g_iadd (pc := 3314) dL_law_3314 ?_
        refine g_sld (pc := 3315) dL_law_3315 (fun x358 => ?_)
        refine g_aload_n (pc := 3316) dL_law_3316 1 rfl ?_
        refine g_iload (pc := 3317) dL_law_3317 5 rfl ?_
        refine g_iconst (pc := 3319) dL_law_3319 ci_2 ?_
        refine g_iadd (pc := 3320) dL_law_3320 ?_
        refine g_sld (pc := 3321) dL_law_3321 (fun x359 => ?_)
        refine g_join (fun k => ∀ (x360 : Int32) (h311 : aH), J_L_law l E n0 m0 3330 [(0, .ref (e_ca E)), (1, .ref (e_z E + x1)), (2, .ref (e_z E + x2)), (3, .ref (e_z E + x3)), (4, .int x4), (5, .int x357)] [.int x360, .int x358, .ref (e_z E + x2)] h311 (k x360 h311)) (fun x360 h311 => ?_) (fun k3330 hk3330 => ?_)
        · refine g_gS (fun hs => ?_)
          refine g_bRi (pc := 3330) (c_V cl12 hs (p_X12_setService hl x2 x358 x360 h311) y_X12_setService tw2244 dL_law_3330 rfl (st := []) rfl (Nat.le_of_ble_eq_true rfl) (Nat.le_of_ble_eq_true rfl) (Nat.le_of_ble_eq_true rfl)) (fun x361 h312 => ?_)
          refine g_istore (pc := 3333) (lv' := [(6, .int x361), (0, .ref (e_ca E)), (1, .ref (e_z E + x1)), (2, .ref (e_z E + x2)), (3, .ref (e_z E + x3)), (4, .int x4), (5, .int x357)]) dL_law_3333 (Nat.le_of_ble_eq_true rfl) rfl ?_
          refine g_aload_n (pc := 3335) dL_law_3335 3 rfl ?_
          refine g_gS (fun hs => ?_)
          refine g_bRi (pc := 3336) (c_V cl12 hs (p_X12_thrown hl x2 h312) y_X12_thrown tw1766 dL_law_3336 rfl (st := []) rfl (Nat.le_of_ble_eq_true rfl) (Nat.le_of_ble_eq_true rfl) (Nat.le_of_ble_eq_true rfl)) (fun x362 h313 => ?_)
          refine g_iload (pc := 3339) dL_law_3339 6 rfl ?_
          refine g_icmpeq (pc := 3341) (tgt := 3346) dL_law_3341 rfl ?_ ?_
          · refine g_iload (pc := 3346) dL_law_3346 6 rfl ?_
            refine g_join (fun k => ∀ (h314 : aH), J_L_law l E n0 m0 3363 [(0, .ref (e_ca E)), (1, .ref (e_z E + x1)), (2, .ref (e_z E + x2)), (3, .ref (e_z E + x3)), (4, .int x4)] [] h314 (k h314)) (fun h314 => ?_) (fun k3363 hk3363 => ?_)
            · refine g_goto (pc := 3363) (tgt := 3562) dL_law_3363 rfl ?_
              exact hk3562 h314
            refine g_ifne (pc := 3348) (tgt := 3363) dL_law_3348 rfl ?_ ?_
            · refine g_aload_n (pc := 3351) dL_law_3351 4 rfl ?_
              refine g_iconst (pc := 3352) dL_law_3352 ci_0 ?_
              refine g_lald (pc := 3353) dL_law_3353 (fun x363 => ?_)
              refine g_iload (pc := 3354) dL_law_3354 0 rfl ?_
              refine g_i2l (pc := 3356) dL_law_3356 ?_
              refine g_lcmp (pc := 3357) dL_law_3357 ?_
              refine g_ifeq (pc := 3358) (tgt := 3363) dL_law_3358 rfl ?_ ?_
              · refine g_lv [1, 2, 3, 4, 5] rfl ?_
                exact hk3363 h313
              · refine g_lv [] rfl ?_
                exact hk3361 h313
            · refine g_lv [1, 2, 3, 4, 5] rfl ?_
              exact hk3363 h313
          · refine g_lv [] rfl ?_
            exact hk3344 h313
        refine g_ifeq (pc := 3322) (tgt := 3329) dL_law_3322 rfl ?_ ?_
        · refine g_iconst (pc := 3329) dL_law_3329 ci_0 ?_
          refine g_lv [1, 2, 3, 4, 5, 0] rfl ?_
          exact hk3330 (0 : Int32) h310
        · refine g_iconst (pc := 3325) dL_law_3325 ci_1 ?_
          refine g_goto (pc := 3326) (tgt := 3330) dL_law_3326 rfl ?_
          refine g_lv [1, 2, 3, 4, 5, 0] rfl ?_
          exact hk3330 (1 : Int32) h310
      refine g_ifeq (pc := 3295) (tgt := 3302) dL_law_3295 rfl ?_ ?_
      · refine g_iconst (pc := 3302) dL_law_3302 ci_0 ?_
        exact hk3303 (0 : Int32) h111
      · refine g_iconst (pc := 3298) dL_law_3298 ci_1 ?_
        refine g_goto (pc := 3299) (tgt := 3303) dL_law_3299 rfl ?_
        exact hk3303 (1 : Int32) h111
    refine g_swI (fun e51 => ?_) (fun e51 => ?_)
    · refine g_swIn (pc := 40) (tgt := 3366) (off := 3326) dL_law_40 (by omega) (by omega) (by rw [e51]; rfl) rfl ?_
      refine g_aload_n (pc := 3366) dL_law_3366 1 rfl ?_
      refine g_aload_n (pc := 3367) dL_law_3367 0 rfl ?_
      refine g_iload (pc := 3368) dL_law_3368 4 rfl ?_
      refine g_iconst (pc := 3370) dL_law_3370 ci_1 ?_
      refine g_iadd (pc := 3371) dL_law_3371 ?_
      refine g_sld (pc := 3372) dL_law_3372 (fun x364 => ?_)
      refine g_aload_n (pc := 3373) dL_law_3373 0 rfl ?_
      refine g_iload (pc := 3374) dL_law_3374 4 rfl ?_
      refine g_iconst (pc := 3376) dL_law_3376 ci_2 ?_
      refine g_iadd (pc := 3377) dL_law_3377 ?_
      refine g_sld (pc := 3378) dL_law_3378 (fun x365 => ?_)
      refine g_aload_n (pc := 3379) dL_law_3379 0 rfl ?_
      refine g_iload (pc := 3380) dL_law_3380 4 rfl ?_
      refine g_iconst (pc := 3382) dL_law_3382 ci_3 ?_
      refine g_iadd (pc := 3383) dL_law_3383 ?_
      refine g_sld (pc := 3384) dL_law_3384 (fun x366 => ?_)
      refine g_aload_n (pc := 3385) dL_law_3385 3 rfl ?_
      refine g_bRi (pc := 3386) (c_SX (p_L_setTrust hl x1 x364 x365 x366 x3 h111) y_L_setTrust tw1501 dL_law_3386 rfl (st := []) rfl (Nat.le_of_ble_eq_true rfl) (Nat.le_of_ble_eq_true rfl) (Nat.le_of_ble_eq_true rfl)) (fun x367 h315 => ?_)
      refine g_istore (pc := 3389) (lv' := [(5, .int x367), (0, .ref (e_ca E)), (1, .ref (e_z E + x1)), (2, .ref (e_z E + x2)), (3, .ref (e_z E + x3)), (4, .int x4)]) dL_law_3389 (Nat.le_of_ble_eq_true rfl) rfl ?_
      refine g_aload_n (pc := 3391) dL_law_3391 3 rfl ?_
      refine g_aload_n (pc := 3392) dL_law_3392 1 rfl ?_
      refine g_iload (pc := 3393) dL_law_3393 5 rfl ?_
      refine g_iconst (pc := 3395) dL_law_3395 ci_1 ?_
      refine g_iadd (pc := 3396) dL_law_3396 ?_
      refine g_sld (pc := 3397) dL_law_3397 (fun x368 => ?_)
      refine g_aload_n (pc := 3398) dL_law_3398 1 rfl ?_
      refine g_iload (pc := 3399) dL_law_3399 5 rfl ?_
      refine g_iconst (pc := 3401) dL_law_3401 ci_2 ?_
      refine g_iadd (pc := 3402) dL_law_3402 ?_
      refine g_sld (pc := 3403) dL_law_3403 (fun x369 => ?_)
      refine g_aload_n (pc := 3404) dL_law_3404 1 rfl ?_
      refine g_iload (pc := 3405) dL_law_3405 5 rfl ?_
      refine g_iconst (pc := 3407) dL_law_3407 ci_3 ?_
      refine g_iadd (pc := 3408) dL_law_3408 ?_
      refine g_sld (pc := 3409) dL_law_3409 (fun x370 => ?_)
      refine g_gS (fun hs => ?_)
      refine g_bRi (pc := 3410) (c_V cl12 hs (p_X12_setTrust hl x2 x368 x369 x370 h315) y_X12_setTrust tw2248 dL_law_3410 rfl (st := []) rfl (Nat.le_of_ble_eq_true rfl) (Nat.le_of_ble_eq_true rfl) (Nat.le_of_ble_eq_true rfl)) (fun x371 h316 => ?_)
      refine g_istore (pc := 3413) (lv' := [(6, .int x371), (5, .int x367), (0, .ref (e_ca E)), (1, .ref (e_z E + x1)), (2, .ref (e_z E + x2)), (3, .ref (e_z E + x3)), (4, .int x4)]) dL_law_3413 (Nat.le_of_ble_eq_true rfl) rfl ?_
      refine g_aload_n (pc := 3415) dL_law_3415 4 rfl ?_
      refine g_gS (fun hs => ?_)
      refine g_bRi (pc := 3416) (c_V cl12 hs (p_X12_thrown hl x2 h316) y_X12_thrown tw1766 dL_law_3416 rfl (st := []) rfl (Nat.le_of_ble_eq_true rfl) (Nat.le_of_ble_eq_true rfl) (Nat.le_of_ble_eq_true rfl)) (fun x372 h317 => ?_)
      refine g_iload (pc := 3419) dL_law_3419 1 rfl ?_
      refine g_icmpeq (pc := 3421) (tgt := 3426) dL_law_3421 rfl ?_ ?_
      · refine g_iload (pc := 3426) dL_law_3426 1 rfl ?_
        refine g_join (fun k => ∀ (h318 : aH), J_L_law l E n0 m0 3443 [(0, .ref (e_ca E)), (1, .ref (e_z E + x1)), (2, .ref (e_z E + x2)), (3, .ref (e_z E + x3)), (4, .int x4)] [] h318 (k h318)) (fun h318 => ?_) (fun k3443 hk3443 => ?_)
        · refine g_goto (pc := 3443) (tgt := 3562) dL_law_3443 rfl ?_
          exact hk3562 h318
        refine g_ifne (pc := 3428) (tgt := 3443) dL_law_3428 rfl ?_ ?_
        · refine g_aload_n (pc := 3431) dL_law_3431 5 rfl ?_
          refine g_iconst (pc := 3432) dL_law_3432 ci_0 ?_
          refine g_lald (pc := 3433) dL_law_3433 (fun x373 => ?_)
          refine g_iload (pc := 3434) dL_law_3434 0 rfl ?_
          refine g_i2l (pc := 3436) dL_law_3436 ?_
          refine g_lcmp (pc := 3437) dL_law_3437 ?_
          refine g_ifeq (pc := 3438) (tgt := 3443) dL_law_3438 rfl ?_ ?_
          · refine g_lv [2, 3, 4, 5, 6] rfl ?_
            exact hk3443 h317
          · refine g_lv [] rfl ?_
            exact hk3441 h317
        · refine g_lv [2, 3, 4, 5, 6] rfl ?_
          exact hk3443 h317
      · refine g_lv [] rfl ?_
        exact hk3424 h317
    refine g_swI (fun e52 => ?_) (fun e52 => ?_)
    · refine g_swIn (pc := 40) (tgt := 3446) (off := 3406) dL_law_40 (by omega) (by omega) (by rw [e52]; rfl) rfl ?_
      refine g_aload_n (pc := 3446) dL_law_3446 1 rfl ?_
      refine g_aload_n (pc := 3447) dL_law_3447 3 rfl ?_
      refine g_bRi (pc := 3448) (c_SX (p_L_undo hl x1 x3 h111) y_L_undo tw1509 dL_law_3448 rfl (st := []) rfl (Nat.le_of_ble_eq_true rfl) (Nat.le_of_ble_eq_true rfl) (Nat.le_of_ble_eq_true rfl)) (fun x374 h319 => ?_)
      refine g_istore (pc := 3451) (lv' := [(5, .int x374), (0, .ref (e_ca E)), (1, .ref (e_z E + x1)), (2, .ref (e_z E + x2)), (3, .ref (e_z E + x3)), (4, .int x4)]) dL_law_3451 (Nat.le_of_ble_eq_true rfl) rfl ?_
      refine g_aload_n (pc := 3453) dL_law_3453 3 rfl ?_
      refine g_gS (fun hs => ?_)
      refine g_bRi (pc := 3454) (c_V cl12 hs (p_X12_undo hl x2 h319) y_X12_undo tw2253 dL_law_3454 rfl (st := []) rfl (Nat.le_of_ble_eq_true rfl) (Nat.le_of_ble_eq_true rfl) (Nat.le_of_ble_eq_true rfl)) (fun x375 h320 => ?_)
      refine g_istore (pc := 3457) (lv' := [(6, .int x375), (5, .int x374), (0, .ref (e_ca E)), (1, .ref (e_z E + x1)), (2, .ref (e_z E + x2)), (3, .ref (e_z E + x3)), (4, .int x4)]) dL_law_3457 (Nat.le_of_ble_eq_true rfl) rfl ?_
      refine g_aload_n (pc := 3459) dL_law_3459 4 rfl ?_
      refine g_gS (fun hs => ?_)
      refine g_bRi (pc := 3460) (c_V cl12 hs (p_X12_thrown hl x2 h320) y_X12_thrown tw1766 dL_law_3460 rfl (st := []) rfl (Nat.le_of_ble_eq_true rfl) (Nat.le_of_ble_eq_true rfl) (Nat.le_of_ble_eq_true rfl)) (fun x376 h321 => ?_)
      refine g_iload (pc := 3463) dL_law_3463 1 rfl ?_
      refine g_icmpeq (pc := 3465) (tgt := 3470) dL_law_3465 rfl ?_ ?_
      · refine g_iload (pc := 3470) dL_law_3470 1 rfl ?_
        refine g_join (fun k => ∀ (h322 : aH), J_L_law l E n0 m0 3487 [(0, .ref (e_ca E)), (1, .ref (e_z E + x1)), (2, .ref (e_z E + x2)), (3, .ref (e_z E + x3)), (4, .int x4)] [] h322 (k h322)) (fun h322 => ?_) (fun k3487 hk3487 => ?_)
        · refine g_goto (pc := 3487) (tgt := 3562) dL_law_3487 rfl ?_
          exact hk3562 h322
        refine g_ifne (pc := 3472) (tgt := 3487) dL_law_3472 rfl ?_ ?_
        · refine g_aload_n (pc := 3475) dL_law_3475 5 rfl ?_
          refine g_iconst (pc := 3476) dL_law_3476 ci_0 ?_
          refine g_lald (pc := 3477) dL_law_3477 (fun x377 => ?_)
          refine g_iload (pc := 3478) dL_law_3478 0 rfl ?_
          refine g_i2l (pc := 3480) dL_law_3480 ?_
          refine g_lcmp (pc := 3481) dL_law_3481 ?_
          refine g_ifeq (pc := 3482) (tgt := 3487) dL_law_3482 rfl ?_ ?_
          · refine g_lv [2, 3, 4, 5, 6] rfl ?_
            exact hk3487 h321
          · refine g_lv [] rfl ?_
            exact hk3485 h321
        · refine g_lv [2, 3, 4, 5, 6] rfl ?_
          exact hk3487 h321
      · refine g_lv [] rfl ?_
        exact hk3468 h321
    refine g_swI (fun e53 => ?_) (fun e53 => ?_)
    · refine g_swIn (pc := 40) (tgt := 3490) (off := 3450) dL_law_40 (by omega) (by omega) (by rw [e53]; rfl) rfl ?_
      refine g_aload_n (pc := 3490) dL_law_3490 1 rfl ?_
      refine g_aload_n (pc := 3491) dL_law_3491 0 rfl ?_
      refine g_iload (pc := 3492) dL_law_3492 4 rfl ?_
      refine g_iconst (pc := 3494) dL_law_3494 ci_1 ?_
      refine g_iadd (pc := 3495) dL_law_3495 ?_
      refine g_sld (pc := 3496) dL_law_3496 (fun x378 => ?_)
      refine g_bRi (pc := 3497) (c_SX (p_L_save hl x1 x378 h111) y_L_save tw1521 dL_law_3497 rfl (st := []) rfl (Nat.le_of_ble_eq_true rfl) (Nat.le_of_ble_eq_true rfl) (Nat.le_of_ble_eq_true rfl)) (fun x379 h323 => ?_)
      refine g_istore (pc := 3500) (lv' := [(5, .int x379), (0, .ref (e_ca E)), (1, .ref (e_z E + x1)), (2, .ref (e_z E + x2)), (3, .ref (e_z E + x3)), (4, .int x4)]) dL_law_3500 (Nat.le_of_ble_eq_true rfl) rfl ?_
      refine g_aload_n (pc := 3502) dL_law_3502 3 rfl ?_
      refine g_aload_n (pc := 3503) dL_law_3503 1 rfl ?_
      refine g_iload (pc := 3504) dL_law_3504 5 rfl ?_
      refine g_iconst (pc := 3506) dL_law_3506 ci_1 ?_
      refine g_iadd (pc := 3507) dL_law_3507 ?_
      refine g_sld (pc := 3508) dL_law_3508 (fun x380 => ?_)
      refine g_gS (fun hs => ?_)
      refine g_bRv (pc := 3509) (c_V cl12 hs (p_X12_save hl x2 x380 h323) y_X12_save tw2257 dL_law_3509 rfl (st := []) rfl (Nat.le_of_ble_eq_true rfl) (Nat.le_of_ble_eq_true rfl) (Nat.le_of_ble_eq_true rfl)) (fun _ h324 => ?_)
      refine g_aload_n (pc := 3512) dL_law_3512 3 rfl ?_
      refine g_gS (fun hs => ?_)
      refine g_bRi (pc := 3513) (c_V cl12 hs (p_X12_thrown hl x2 h324) y_X12_thrown tw1766 dL_law_3513 rfl (st := []) rfl (Nat.le_of_ble_eq_true rfl) (Nat.le_of_ble_eq_true rfl) (Nat.le_of_ble_eq_true rfl)) (fun x381 h325 => ?_)
      refine g_iload (pc := 3516) dL_law_3516 0 rfl ?_
      refine g_icmpeq (pc := 3518) (tgt := 3523) dL_law_3518 rfl ?_ ?_
      · refine g_goto (pc := 3523) (tgt := 3562) dL_law_3523 rfl ?_
        refine g_lv [1, 2, 3, 4, 5] rfl ?_
        exact hk3562 h325
      · refine g_lv [] rfl ?_
        exact hk3521 h325
    refine g_swI (fun e54 => ?_) (fun e54 => ?_)
    · refine g_swIn (pc := 40) (tgt := 3526) (off := 3486) dL_law_40 (by omega) (by omega) (by rw [e54]; rfl) rfl ?_
      refine g_aload_n (pc := 3526) dL_law_3526 1 rfl ?_
      refine g_aload_n (pc := 3527) dL_law_3527 0 rfl ?_
      refine g_iload (pc := 3528) dL_law_3528 4 rfl ?_
      refine g_iconst (pc := 3530) dL_law_3530 ci_1 ?_
      refine g_iadd (pc := 3531) dL_law_3531 ?_
      refine g_sld (pc := 3532) dL_law_3532 (fun x382 => ?_)
      refine g_bRi (pc := 3533) (c_SX (p_L_restore hl x1 x382 h111) y_L_restore tw1533 dL_law_3533 rfl (st := []) rfl (Nat.le_of_ble_eq_true rfl) (Nat.le_of_ble_eq_true rfl) (Nat.le_of_ble_eq_true rfl)) (fun x383 h326 => ?_)
      refine g_istore (pc := 3536) (lv' := [(5, .int x383), (0, .ref (e_ca E)), (1, .ref (e_z E + x1)), (2, .ref (e_z E + x2)), (3, .ref (e_z E + x3)), (4, .int x4)]) dL_law_3536 (Nat.le_of_ble_eq_true rfl) rfl ?_
      refine g_aload_n (pc := 3538) dL_law_3538 3 rfl ?_
      refine g_aload_n (pc := 3539) dL_law_3539 1 rfl ?_
      refine g_iload (pc := 3540) dL_law_3540 5 rfl ?_
      refine g_iconst (pc := 3542) dL_law_3542 ci_1 ?_
      refine g_iadd (pc := 3543) dL_law_3543 ?_
      refine g_sld (pc := 3544) dL_law_3544 (fun x384 => ?_)
      refine g_gS (fun hs => ?_)
      refine g_bRv (pc := 3545) (c_V cl12 hs (p_X12_restore hl x2 x384 h326) y_X12_restore tw2261 dL_law_3545 rfl (st := []) rfl (Nat.le_of_ble_eq_true rfl) (Nat.le_of_ble_eq_true rfl) (Nat.le_of_ble_eq_true rfl)) (fun _ h327 => ?_)
      refine g_aload_n (pc := 3548) dL_law_3548 3 rfl ?_
      refine g_gS (fun hs => ?_)
      refine g_bRi (pc := 3549) (c_V cl12 hs (p_X12_thrown hl x2 h327) y_X12_thrown tw1766 dL_law_3549 rfl (st := []) rfl (Nat.le_of_ble_eq_true rfl) (Nat.le_of_ble_eq_true rfl) (Nat.le_of_ble_eq_true rfl)) (fun x385 h328 => ?_)
      refine g_iload (pc := 3552) dL_law_3552 0 rfl ?_
      refine g_icmpeq (pc := 3554) (tgt := 3559) dL_law_3554 rfl ?_ ?_
      · refine g_goto (pc := 3559) (tgt := 3562) dL_law_3559 rfl ?_
        refine g_lv [1, 2, 3, 4, 5] rfl ?_
        exact hk3562 h328
      · refine g_lv [] rfl ?_
        exact hk3557 h328
    refine g_swOut (pc := 40) (tgt := 3562) dL_law_40 (by omega) rfl ?_
    exact hk3562 h111
  · refine g_lv [] rfl ?_
    exact hk3568 h111
theorem p_L_law {l : Launch} {E : aE} (hl : l.stackTraces = false) (h0 : aH) : MO (fun (v : Int32) => .inl (some (.int v))) l E yL_law (.code yL_law cL_law 7 (some .boolean)) 13 356 [.ref (e_ca E)] h0 (m_L_law (e_cs E) h0) := g_met hl (by decide +kernel) (Nat.le_of_ble_eq_true rfl) (b_L_law hl _ _ h0)
