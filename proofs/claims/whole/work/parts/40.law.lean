/-! the law itself -/
abbrev claw : ByteArray := code
abbrev milaw : MI := ("SlateHandsLaw", claw, 4, 103, false)
theorem dlaw_0 : decode claw 0 = .ok (.new 7, 3) := by decide +kernel
theorem dlaw_3 : decode claw 3 = .ok (.dup, 1) := by decide +kernel
theorem dlaw_4 : decode claw 4 = .ok (.invokespecial 9, 3) := by decide +kernel
theorem dlaw_7 : decode claw 7 = .ok (.astore_n 1, 1) := by decide +kernel
theorem dlaw_8 : decode claw 8 = .ok (.new 10, 3) := by decide +kernel
theorem dlaw_11 : decode claw 11 = .ok (.dup, 1) := by decide +kernel
theorem dlaw_12 : decode claw 12 = .ok (.invokespecial 12, 3) := by decide +kernel
theorem dlaw_15 : decode claw 15 = .ok (.astore_n 2, 1) := by decide +kernel
theorem dlaw_16 : decode claw 16 = .ok (.iconst 0, 1) := by decide +kernel
theorem dlaw_17 : decode claw 17 = .ok (.istore_n 3, 1) := by decide +kernel
theorem dlaw_18 : decode claw 18 = .ok (.iload_n 3, 1) := by decide +kernel
theorem dlaw_19 : decode claw 19 = .ok (.aload_n 0, 1) := by decide +kernel
theorem dlaw_20 : decode claw 20 = .ok (.arraylength, 1) := by decide +kernel
theorem dlaw_21 : decode claw 21 = .ok (.bipush 6, 2) := by decide +kernel
theorem dlaw_23 : decode claw 23 = .ok (.isub, 1) := by decide +kernel
theorem dlaw_24 : decode claw 24 = .ok (.if_icmp .gt 2322, 3) := by decide +kernel
theorem dlaw_27 : decode claw 27 = .ok (.aload_n 0, 1) := by decide +kernel
theorem dlaw_28 : decode claw 28 = .ok (.iload_n 3, 1) := by decide +kernel
theorem dlaw_29 : decode claw 29 = .ok (.iaload, 1) := by decide +kernel
theorem dlaw_30 : decode claw 30 = .ok (.bipush 63, 2) := by decide +kernel
theorem dlaw_32 : decode claw 32 = .ok (.iand, 1) := by decide +kernel
theorem dlaw_33 : decode claw 33 = .ok (.tableswitch 2307 0 62 #[267, 330, 353, 366, 389, 412, 445, 478, 501, 534, 567, 600, 633, 666, 699, 742, 775, 808, 841, 864, 877, 900, 923, 946, 969, 992, 1015, 1038, 1051, 1064, 1107, 1150, 1183, 1216, 1249, 1292, 1335, 1368, 1411, 1434, 1467, 1490, 1523, 1556, 1589, 1622, 1645, 1688, 1751, 1794, 1828, 1881, 1914, 1927, 1940, 1973, 2026, 2059, 2082, 2105, 2128, 2171, 2244], 267) := by decide +kernel
theorem dlaw_300 : decode claw 300 = .ok (.aload_n 1, 1) := by decide +kernel
theorem dlaw_301 : decode claw 301 = .ok (.aload_n 0, 1) := by decide +kernel
theorem dlaw_302 : decode claw 302 = .ok (.iload_n 3, 1) := by decide +kernel
theorem dlaw_303 : decode claw 303 = .ok (.iconst 1, 1) := by decide +kernel
theorem dlaw_304 : decode claw 304 = .ok (.iadd, 1) := by decide +kernel
theorem dlaw_305 : decode claw 305 = .ok (.iaload, 1) := by decide +kernel
theorem dlaw_306 : decode claw 306 = .ok (.aload_n 0, 1) := by decide +kernel
theorem dlaw_307 : decode claw 307 = .ok (.iload_n 3, 1) := by decide +kernel
theorem dlaw_308 : decode claw 308 = .ok (.iconst 2, 1) := by decide +kernel
theorem dlaw_309 : decode claw 309 = .ok (.iadd, 1) := by decide +kernel
theorem dlaw_310 : decode claw 310 = .ok (.iaload, 1) := by decide +kernel
theorem dlaw_311 : decode claw 311 = .ok (.aload_n 0, 1) := by decide +kernel
theorem dlaw_312 : decode claw 312 = .ok (.iload_n 3, 1) := by decide +kernel
theorem dlaw_313 : decode claw 313 = .ok (.iconst 3, 1) := by decide +kernel
theorem dlaw_314 : decode claw 314 = .ok (.iadd, 1) := by decide +kernel
theorem dlaw_315 : decode claw 315 = .ok (.iaload, 1) := by decide +kernel
theorem dlaw_316 : decode claw 316 = .ok (.aload_n 0, 1) := by decide +kernel
theorem dlaw_317 : decode claw 317 = .ok (.iload_n 3, 1) := by decide +kernel
theorem dlaw_318 : decode claw 318 = .ok (.iconst 4, 1) := by decide +kernel
theorem dlaw_319 : decode claw 319 = .ok (.iadd, 1) := by decide +kernel
theorem dlaw_320 : decode claw 320 = .ok (.iaload, 1) := by decide +kernel
theorem dlaw_321 : decode claw 321 = .ok (.aload_n 0, 1) := by decide +kernel
theorem dlaw_322 : decode claw 322 = .ok (.iload_n 3, 1) := by decide +kernel
theorem dlaw_323 : decode claw 323 = .ok (.iconst 5, 1) := by decide +kernel
theorem dlaw_324 : decode claw 324 = .ok (.iadd, 1) := by decide +kernel
theorem dlaw_325 : decode claw 325 = .ok (.iaload, 1) := by decide +kernel
theorem dlaw_326 : decode claw 326 = .ok (.invokevirtual 13, 3) := by decide +kernel
theorem dlaw_329 : decode claw 329 = .ok (.aload_n 2, 1) := by decide +kernel
theorem dlaw_330 : decode claw 330 = .ok (.aload_n 0, 1) := by decide +kernel
theorem dlaw_331 : decode claw 331 = .ok (.iload_n 3, 1) := by decide +kernel
theorem dlaw_332 : decode claw 332 = .ok (.iconst 1, 1) := by decide +kernel
theorem dlaw_333 : decode claw 333 = .ok (.iadd, 1) := by decide +kernel
theorem dlaw_334 : decode claw 334 = .ok (.iaload, 1) := by decide +kernel
theorem dlaw_335 : decode claw 335 = .ok (.aload_n 0, 1) := by decide +kernel
theorem dlaw_336 : decode claw 336 = .ok (.iload_n 3, 1) := by decide +kernel
theorem dlaw_337 : decode claw 337 = .ok (.iconst 2, 1) := by decide +kernel
theorem dlaw_338 : decode claw 338 = .ok (.iadd, 1) := by decide +kernel
theorem dlaw_339 : decode claw 339 = .ok (.iaload, 1) := by decide +kernel
theorem dlaw_340 : decode claw 340 = .ok (.aload_n 0, 1) := by decide +kernel
theorem dlaw_341 : decode claw 341 = .ok (.iload_n 3, 1) := by decide +kernel
theorem dlaw_342 : decode claw 342 = .ok (.iconst 3, 1) := by decide +kernel
theorem dlaw_343 : decode claw 343 = .ok (.iadd, 1) := by decide +kernel
theorem dlaw_344 : decode claw 344 = .ok (.iaload, 1) := by decide +kernel
theorem dlaw_345 : decode claw 345 = .ok (.aload_n 0, 1) := by decide +kernel
theorem dlaw_346 : decode claw 346 = .ok (.iload_n 3, 1) := by decide +kernel
theorem dlaw_347 : decode claw 347 = .ok (.iconst 4, 1) := by decide +kernel
theorem dlaw_348 : decode claw 348 = .ok (.iadd, 1) := by decide +kernel
theorem dlaw_349 : decode claw 349 = .ok (.iaload, 1) := by decide +kernel
theorem dlaw_350 : decode claw 350 = .ok (.aload_n 0, 1) := by decide +kernel
theorem dlaw_351 : decode claw 351 = .ok (.iload_n 3, 1) := by decide +kernel
theorem dlaw_352 : decode claw 352 = .ok (.iconst 5, 1) := by decide +kernel
theorem dlaw_353 : decode claw 353 = .ok (.iadd, 1) := by decide +kernel
theorem dlaw_354 : decode claw 354 = .ok (.iaload, 1) := by decide +kernel
theorem dlaw_355 : decode claw 355 = .ok (.invokevirtual 17, 3) := by decide +kernel
theorem dlaw_358 : decode claw 358 = .ok (.if_icmp .eq 1982, 3) := by decide +kernel
theorem dlaw_361 : decode claw 361 = .ok (.iconst 0, 1) := by decide +kernel
theorem dlaw_362 : decode claw 362 = .ok (.ireturn, 1) := by decide +kernel
theorem dlaw_363 : decode claw 363 = .ok (.aload_n 1, 1) := by decide +kernel
theorem dlaw_364 : decode claw 364 = .ok (.aload_n 0, 1) := by decide +kernel
theorem dlaw_365 : decode claw 365 = .ok (.iload_n 3, 1) := by decide +kernel
theorem dlaw_366 : decode claw 366 = .ok (.iconst 1, 1) := by decide +kernel
theorem dlaw_367 : decode claw 367 = .ok (.iadd, 1) := by decide +kernel
theorem dlaw_368 : decode claw 368 = .ok (.iaload, 1) := by decide +kernel
theorem dlaw_369 : decode claw 369 = .ok (.invokevirtual 18, 3) := by decide +kernel
theorem dlaw_372 : decode claw 372 = .ok (.aload_n 2, 1) := by decide +kernel
theorem dlaw_373 : decode claw 373 = .ok (.aload_n 0, 1) := by decide +kernel
theorem dlaw_374 : decode claw 374 = .ok (.iload_n 3, 1) := by decide +kernel
theorem dlaw_375 : decode claw 375 = .ok (.iconst 1, 1) := by decide +kernel
theorem dlaw_376 : decode claw 376 = .ok (.iadd, 1) := by decide +kernel
theorem dlaw_377 : decode claw 377 = .ok (.iaload, 1) := by decide +kernel
theorem dlaw_378 : decode claw 378 = .ok (.invokevirtual 22, 3) := by decide +kernel
theorem dlaw_381 : decode claw 381 = .ok (.if_icmp .eq 1959, 3) := by decide +kernel
theorem dlaw_384 : decode claw 384 = .ok (.iconst 0, 1) := by decide +kernel
theorem dlaw_385 : decode claw 385 = .ok (.ireturn, 1) := by decide +kernel
theorem dlaw_386 : decode claw 386 = .ok (.aload_n 1, 1) := by decide +kernel
theorem dlaw_387 : decode claw 387 = .ok (.invokevirtual 23, 3) := by decide +kernel
theorem dlaw_390 : decode claw 390 = .ok (.aload_n 2, 1) := by decide +kernel
theorem dlaw_391 : decode claw 391 = .ok (.invokevirtual 27, 3) := by decide +kernel
theorem dlaw_394 : decode claw 394 = .ok (.if_icmp .eq 1946, 3) := by decide +kernel
theorem dlaw_397 : decode claw 397 = .ok (.iconst 0, 1) := by decide +kernel
theorem dlaw_398 : decode claw 398 = .ok (.ireturn, 1) := by decide +kernel
theorem dlaw_399 : decode claw 399 = .ok (.aload_n 1, 1) := by decide +kernel
theorem dlaw_400 : decode claw 400 = .ok (.aload_n 0, 1) := by decide +kernel
theorem dlaw_401 : decode claw 401 = .ok (.iload_n 3, 1) := by decide +kernel
theorem dlaw_402 : decode claw 402 = .ok (.iconst 1, 1) := by decide +kernel
theorem dlaw_403 : decode claw 403 = .ok (.iadd, 1) := by decide +kernel
theorem dlaw_404 : decode claw 404 = .ok (.iaload, 1) := by decide +kernel
theorem dlaw_405 : decode claw 405 = .ok (.invokevirtual 28, 3) := by decide +kernel
theorem dlaw_408 : decode claw 408 = .ok (.aload_n 2, 1) := by decide +kernel
theorem dlaw_409 : decode claw 409 = .ok (.aload_n 0, 1) := by decide +kernel
theorem dlaw_410 : decode claw 410 = .ok (.iload_n 3, 1) := by decide +kernel
theorem dlaw_411 : decode claw 411 = .ok (.iconst 1, 1) := by decide +kernel
theorem dlaw_412 : decode claw 412 = .ok (.iadd, 1) := by decide +kernel
theorem dlaw_413 : decode claw 413 = .ok (.iaload, 1) := by decide +kernel
theorem dlaw_414 : decode claw 414 = .ok (.invokevirtual 31, 3) := by decide +kernel
theorem dlaw_417 : decode claw 417 = .ok (.if_icmp .eq 1923, 3) := by decide +kernel
theorem dlaw_420 : decode claw 420 = .ok (.iconst 0, 1) := by decide +kernel
theorem dlaw_421 : decode claw 421 = .ok (.ireturn, 1) := by decide +kernel
theorem dlaw_422 : decode claw 422 = .ok (.aload_n 1, 1) := by decide +kernel
theorem dlaw_423 : decode claw 423 = .ok (.aload_n 0, 1) := by decide +kernel
theorem dlaw_424 : decode claw 424 = .ok (.iload_n 3, 1) := by decide +kernel
theorem dlaw_425 : decode claw 425 = .ok (.iconst 1, 1) := by decide +kernel
theorem dlaw_426 : decode claw 426 = .ok (.iadd, 1) := by decide +kernel
theorem dlaw_427 : decode claw 427 = .ok (.iaload, 1) := by decide +kernel
theorem dlaw_428 : decode claw 428 = .ok (.invokevirtual 32, 3) := by decide +kernel
theorem dlaw_431 : decode claw 431 = .ok (.aload_n 2, 1) := by decide +kernel
theorem dlaw_432 : decode claw 432 = .ok (.aload_n 0, 1) := by decide +kernel
theorem dlaw_433 : decode claw 433 = .ok (.iload_n 3, 1) := by decide +kernel
theorem dlaw_434 : decode claw 434 = .ok (.iconst 1, 1) := by decide +kernel
theorem dlaw_435 : decode claw 435 = .ok (.iadd, 1) := by decide +kernel
theorem dlaw_436 : decode claw 436 = .ok (.iaload, 1) := by decide +kernel
theorem dlaw_437 : decode claw 437 = .ok (.invokevirtual 35, 3) := by decide +kernel
theorem dlaw_440 : decode claw 440 = .ok (.if_icmp .eq 1900, 3) := by decide +kernel
theorem dlaw_443 : decode claw 443 = .ok (.iconst 0, 1) := by decide +kernel
theorem dlaw_444 : decode claw 444 = .ok (.ireturn, 1) := by decide +kernel
theorem dlaw_445 : decode claw 445 = .ok (.aload_n 1, 1) := by decide +kernel
theorem dlaw_446 : decode claw 446 = .ok (.aload_n 0, 1) := by decide +kernel
theorem dlaw_447 : decode claw 447 = .ok (.iload_n 3, 1) := by decide +kernel
theorem dlaw_448 : decode claw 448 = .ok (.iconst 1, 1) := by decide +kernel
theorem dlaw_449 : decode claw 449 = .ok (.iadd, 1) := by decide +kernel
theorem dlaw_450 : decode claw 450 = .ok (.iaload, 1) := by decide +kernel
theorem dlaw_451 : decode claw 451 = .ok (.aload_n 0, 1) := by decide +kernel
theorem dlaw_452 : decode claw 452 = .ok (.iload_n 3, 1) := by decide +kernel
theorem dlaw_453 : decode claw 453 = .ok (.iconst 2, 1) := by decide +kernel
theorem dlaw_454 : decode claw 454 = .ok (.iadd, 1) := by decide +kernel
theorem dlaw_455 : decode claw 455 = .ok (.iaload, 1) := by decide +kernel
theorem dlaw_456 : decode claw 456 = .ok (.invokevirtual 36, 3) := by decide +kernel
theorem dlaw_459 : decode claw 459 = .ok (.aload_n 2, 1) := by decide +kernel
theorem dlaw_460 : decode claw 460 = .ok (.aload_n 0, 1) := by decide +kernel
theorem dlaw_461 : decode claw 461 = .ok (.iload_n 3, 1) := by decide +kernel
theorem dlaw_462 : decode claw 462 = .ok (.iconst 1, 1) := by decide +kernel
theorem dlaw_463 : decode claw 463 = .ok (.iadd, 1) := by decide +kernel
theorem dlaw_464 : decode claw 464 = .ok (.iaload, 1) := by decide +kernel
theorem dlaw_465 : decode claw 465 = .ok (.aload_n 0, 1) := by decide +kernel
theorem dlaw_466 : decode claw 466 = .ok (.iload_n 3, 1) := by decide +kernel
theorem dlaw_467 : decode claw 467 = .ok (.iconst 2, 1) := by decide +kernel
theorem dlaw_468 : decode claw 468 = .ok (.iadd, 1) := by decide +kernel
theorem dlaw_469 : decode claw 469 = .ok (.iaload, 1) := by decide +kernel
theorem dlaw_470 : decode claw 470 = .ok (.invokevirtual 40, 3) := by decide +kernel
theorem dlaw_473 : decode claw 473 = .ok (.if_icmp .eq 1867, 3) := by decide +kernel
theorem dlaw_476 : decode claw 476 = .ok (.iconst 0, 1) := by decide +kernel
theorem dlaw_477 : decode claw 477 = .ok (.ireturn, 1) := by decide +kernel
theorem dlaw_478 : decode claw 478 = .ok (.aload_n 1, 1) := by decide +kernel
theorem dlaw_479 : decode claw 479 = .ok (.aload_n 0, 1) := by decide +kernel
theorem dlaw_480 : decode claw 480 = .ok (.iload_n 3, 1) := by decide +kernel
theorem dlaw_481 : decode claw 481 = .ok (.iconst 1, 1) := by decide +kernel
theorem dlaw_482 : decode claw 482 = .ok (.iadd, 1) := by decide +kernel
theorem dlaw_483 : decode claw 483 = .ok (.iaload, 1) := by decide +kernel
theorem dlaw_484 : decode claw 484 = .ok (.aload_n 0, 1) := by decide +kernel
theorem dlaw_485 : decode claw 485 = .ok (.iload_n 3, 1) := by decide +kernel
theorem dlaw_486 : decode claw 486 = .ok (.iconst 2, 1) := by decide +kernel
theorem dlaw_487 : decode claw 487 = .ok (.iadd, 1) := by decide +kernel
theorem dlaw_488 : decode claw 488 = .ok (.iaload, 1) := by decide +kernel
theorem dlaw_489 : decode claw 489 = .ok (.invokevirtual 41, 3) := by decide +kernel
theorem dlaw_492 : decode claw 492 = .ok (.aload_n 2, 1) := by decide +kernel
theorem dlaw_493 : decode claw 493 = .ok (.aload_n 0, 1) := by decide +kernel
theorem dlaw_494 : decode claw 494 = .ok (.iload_n 3, 1) := by decide +kernel
theorem dlaw_495 : decode claw 495 = .ok (.iconst 1, 1) := by decide +kernel
theorem dlaw_496 : decode claw 496 = .ok (.iadd, 1) := by decide +kernel
theorem dlaw_497 : decode claw 497 = .ok (.iaload, 1) := by decide +kernel
theorem dlaw_498 : decode claw 498 = .ok (.aload_n 0, 1) := by decide +kernel
theorem dlaw_499 : decode claw 499 = .ok (.iload_n 3, 1) := by decide +kernel
theorem dlaw_500 : decode claw 500 = .ok (.iconst 2, 1) := by decide +kernel
theorem dlaw_501 : decode claw 501 = .ok (.iadd, 1) := by decide +kernel
theorem dlaw_502 : decode claw 502 = .ok (.iaload, 1) := by decide +kernel
theorem dlaw_503 : decode claw 503 = .ok (.invokevirtual 44, 3) := by decide +kernel
theorem dlaw_506 : decode claw 506 = .ok (.if_icmp .eq 1834, 3) := by decide +kernel
theorem dlaw_509 : decode claw 509 = .ok (.iconst 0, 1) := by decide +kernel
theorem dlaw_510 : decode claw 510 = .ok (.ireturn, 1) := by decide +kernel
theorem dlaw_511 : decode claw 511 = .ok (.aload_n 1, 1) := by decide +kernel
theorem dlaw_512 : decode claw 512 = .ok (.aload_n 0, 1) := by decide +kernel
theorem dlaw_513 : decode claw 513 = .ok (.iload_n 3, 1) := by decide +kernel
theorem dlaw_514 : decode claw 514 = .ok (.iconst 1, 1) := by decide +kernel
theorem dlaw_515 : decode claw 515 = .ok (.iadd, 1) := by decide +kernel
theorem dlaw_516 : decode claw 516 = .ok (.iaload, 1) := by decide +kernel
theorem dlaw_517 : decode claw 517 = .ok (.invokevirtual 45, 3) := by decide +kernel
theorem dlaw_520 : decode claw 520 = .ok (.aload_n 2, 1) := by decide +kernel
theorem dlaw_521 : decode claw 521 = .ok (.aload_n 0, 1) := by decide +kernel
theorem dlaw_522 : decode claw 522 = .ok (.iload_n 3, 1) := by decide +kernel
theorem dlaw_523 : decode claw 523 = .ok (.iconst 1, 1) := by decide +kernel
theorem dlaw_524 : decode claw 524 = .ok (.iadd, 1) := by decide +kernel
theorem dlaw_525 : decode claw 525 = .ok (.iaload, 1) := by decide +kernel
theorem dlaw_526 : decode claw 526 = .ok (.invokevirtual 48, 3) := by decide +kernel
theorem dlaw_529 : decode claw 529 = .ok (.if_icmp .eq 1811, 3) := by decide +kernel
theorem dlaw_532 : decode claw 532 = .ok (.iconst 0, 1) := by decide +kernel
theorem dlaw_533 : decode claw 533 = .ok (.ireturn, 1) := by decide +kernel
theorem dlaw_534 : decode claw 534 = .ok (.aload_n 1, 1) := by decide +kernel
theorem dlaw_535 : decode claw 535 = .ok (.aload_n 0, 1) := by decide +kernel
theorem dlaw_536 : decode claw 536 = .ok (.iload_n 3, 1) := by decide +kernel
theorem dlaw_537 : decode claw 537 = .ok (.iconst 1, 1) := by decide +kernel
theorem dlaw_538 : decode claw 538 = .ok (.iadd, 1) := by decide +kernel
theorem dlaw_539 : decode claw 539 = .ok (.iaload, 1) := by decide +kernel
theorem dlaw_540 : decode claw 540 = .ok (.aload_n 0, 1) := by decide +kernel
theorem dlaw_541 : decode claw 541 = .ok (.iload_n 3, 1) := by decide +kernel
theorem dlaw_542 : decode claw 542 = .ok (.iconst 2, 1) := by decide +kernel
theorem dlaw_543 : decode claw 543 = .ok (.iadd, 1) := by decide +kernel
theorem dlaw_544 : decode claw 544 = .ok (.iaload, 1) := by decide +kernel
theorem dlaw_545 : decode claw 545 = .ok (.invokevirtual 49, 3) := by decide +kernel
theorem dlaw_548 : decode claw 548 = .ok (.aload_n 2, 1) := by decide +kernel
theorem dlaw_549 : decode claw 549 = .ok (.aload_n 0, 1) := by decide +kernel
theorem dlaw_550 : decode claw 550 = .ok (.iload_n 3, 1) := by decide +kernel
theorem dlaw_551 : decode claw 551 = .ok (.iconst 1, 1) := by decide +kernel
theorem dlaw_552 : decode claw 552 = .ok (.iadd, 1) := by decide +kernel
theorem dlaw_553 : decode claw 553 = .ok (.iaload, 1) := by decide +kernel
theorem dlaw_554 : decode claw 554 = .ok (.aload_n 0, 1) := by decide +kernel
theorem dlaw_555 : decode claw 555 = .ok (.iload_n 3, 1) := by decide +kernel
theorem dlaw_556 : decode claw 556 = .ok (.iconst 2, 1) := by decide +kernel
theorem dlaw_557 : decode claw 557 = .ok (.iadd, 1) := by decide +kernel
theorem dlaw_558 : decode claw 558 = .ok (.iaload, 1) := by decide +kernel
theorem dlaw_559 : decode claw 559 = .ok (.invokevirtual 52, 3) := by decide +kernel
theorem dlaw_562 : decode claw 562 = .ok (.if_icmp .eq 1778, 3) := by decide +kernel
theorem dlaw_565 : decode claw 565 = .ok (.iconst 0, 1) := by decide +kernel
theorem dlaw_566 : decode claw 566 = .ok (.ireturn, 1) := by decide +kernel
theorem dlaw_567 : decode claw 567 = .ok (.aload_n 1, 1) := by decide +kernel
theorem dlaw_568 : decode claw 568 = .ok (.aload_n 0, 1) := by decide +kernel
theorem dlaw_569 : decode claw 569 = .ok (.iload_n 3, 1) := by decide +kernel
theorem dlaw_570 : decode claw 570 = .ok (.iconst 1, 1) := by decide +kernel
theorem dlaw_571 : decode claw 571 = .ok (.iadd, 1) := by decide +kernel
theorem dlaw_572 : decode claw 572 = .ok (.iaload, 1) := by decide +kernel
theorem dlaw_573 : decode claw 573 = .ok (.aload_n 0, 1) := by decide +kernel
theorem dlaw_574 : decode claw 574 = .ok (.iload_n 3, 1) := by decide +kernel
theorem dlaw_575 : decode claw 575 = .ok (.iconst 2, 1) := by decide +kernel
theorem dlaw_576 : decode claw 576 = .ok (.iadd, 1) := by decide +kernel
theorem dlaw_577 : decode claw 577 = .ok (.iaload, 1) := by decide +kernel
theorem dlaw_578 : decode claw 578 = .ok (.invokevirtual 53, 3) := by decide +kernel
theorem dlaw_581 : decode claw 581 = .ok (.aload_n 2, 1) := by decide +kernel
theorem dlaw_582 : decode claw 582 = .ok (.aload_n 0, 1) := by decide +kernel
theorem dlaw_583 : decode claw 583 = .ok (.iload_n 3, 1) := by decide +kernel
theorem dlaw_584 : decode claw 584 = .ok (.iconst 1, 1) := by decide +kernel
theorem dlaw_585 : decode claw 585 = .ok (.iadd, 1) := by decide +kernel
theorem dlaw_586 : decode claw 586 = .ok (.iaload, 1) := by decide +kernel
theorem dlaw_587 : decode claw 587 = .ok (.aload_n 0, 1) := by decide +kernel
theorem dlaw_588 : decode claw 588 = .ok (.iload_n 3, 1) := by decide +kernel
theorem dlaw_589 : decode claw 589 = .ok (.iconst 2, 1) := by decide +kernel
theorem dlaw_590 : decode claw 590 = .ok (.iadd, 1) := by decide +kernel
theorem dlaw_591 : decode claw 591 = .ok (.iaload, 1) := by decide +kernel
theorem dlaw_592 : decode claw 592 = .ok (.invokevirtual 56, 3) := by decide +kernel
theorem dlaw_595 : decode claw 595 = .ok (.if_icmp .eq 1745, 3) := by decide +kernel
theorem dlaw_598 : decode claw 598 = .ok (.iconst 0, 1) := by decide +kernel
theorem dlaw_599 : decode claw 599 = .ok (.ireturn, 1) := by decide +kernel
theorem dlaw_600 : decode claw 600 = .ok (.aload_n 1, 1) := by decide +kernel
theorem dlaw_601 : decode claw 601 = .ok (.aload_n 0, 1) := by decide +kernel
theorem dlaw_602 : decode claw 602 = .ok (.iload_n 3, 1) := by decide +kernel
theorem dlaw_603 : decode claw 603 = .ok (.iconst 1, 1) := by decide +kernel
theorem dlaw_604 : decode claw 604 = .ok (.iadd, 1) := by decide +kernel
theorem dlaw_605 : decode claw 605 = .ok (.iaload, 1) := by decide +kernel
theorem dlaw_606 : decode claw 606 = .ok (.aload_n 0, 1) := by decide +kernel
theorem dlaw_607 : decode claw 607 = .ok (.iload_n 3, 1) := by decide +kernel
theorem dlaw_608 : decode claw 608 = .ok (.iconst 2, 1) := by decide +kernel
theorem dlaw_609 : decode claw 609 = .ok (.iadd, 1) := by decide +kernel
theorem dlaw_610 : decode claw 610 = .ok (.iaload, 1) := by decide +kernel
theorem dlaw_611 : decode claw 611 = .ok (.invokevirtual 57, 3) := by decide +kernel
theorem dlaw_614 : decode claw 614 = .ok (.aload_n 2, 1) := by decide +kernel
theorem dlaw_615 : decode claw 615 = .ok (.aload_n 0, 1) := by decide +kernel
theorem dlaw_616 : decode claw 616 = .ok (.iload_n 3, 1) := by decide +kernel
theorem dlaw_617 : decode claw 617 = .ok (.iconst 1, 1) := by decide +kernel
theorem dlaw_618 : decode claw 618 = .ok (.iadd, 1) := by decide +kernel
theorem dlaw_619 : decode claw 619 = .ok (.iaload, 1) := by decide +kernel
theorem dlaw_620 : decode claw 620 = .ok (.aload_n 0, 1) := by decide +kernel
theorem dlaw_621 : decode claw 621 = .ok (.iload_n 3, 1) := by decide +kernel
theorem dlaw_622 : decode claw 622 = .ok (.iconst 2, 1) := by decide +kernel
theorem dlaw_623 : decode claw 623 = .ok (.iadd, 1) := by decide +kernel
theorem dlaw_624 : decode claw 624 = .ok (.iaload, 1) := by decide +kernel
theorem dlaw_625 : decode claw 625 = .ok (.invokevirtual 60, 3) := by decide +kernel
theorem dlaw_628 : decode claw 628 = .ok (.if_icmp .eq 1712, 3) := by decide +kernel
theorem dlaw_631 : decode claw 631 = .ok (.iconst 0, 1) := by decide +kernel
theorem dlaw_632 : decode claw 632 = .ok (.ireturn, 1) := by decide +kernel
theorem dlaw_633 : decode claw 633 = .ok (.aload_n 1, 1) := by decide +kernel
theorem dlaw_634 : decode claw 634 = .ok (.aload_n 0, 1) := by decide +kernel
theorem dlaw_635 : decode claw 635 = .ok (.iload_n 3, 1) := by decide +kernel
theorem dlaw_636 : decode claw 636 = .ok (.iconst 1, 1) := by decide +kernel
theorem dlaw_637 : decode claw 637 = .ok (.iadd, 1) := by decide +kernel
theorem dlaw_638 : decode claw 638 = .ok (.iaload, 1) := by decide +kernel
theorem dlaw_639 : decode claw 639 = .ok (.aload_n 0, 1) := by decide +kernel
theorem dlaw_640 : decode claw 640 = .ok (.iload_n 3, 1) := by decide +kernel
theorem dlaw_641 : decode claw 641 = .ok (.iconst 2, 1) := by decide +kernel
theorem dlaw_642 : decode claw 642 = .ok (.iadd, 1) := by decide +kernel
theorem dlaw_643 : decode claw 643 = .ok (.iaload, 1) := by decide +kernel
theorem dlaw_644 : decode claw 644 = .ok (.invokevirtual 61, 3) := by decide +kernel
theorem dlaw_647 : decode claw 647 = .ok (.aload_n 2, 1) := by decide +kernel
theorem dlaw_648 : decode claw 648 = .ok (.aload_n 0, 1) := by decide +kernel
theorem dlaw_649 : decode claw 649 = .ok (.iload_n 3, 1) := by decide +kernel
theorem dlaw_650 : decode claw 650 = .ok (.iconst 1, 1) := by decide +kernel
theorem dlaw_651 : decode claw 651 = .ok (.iadd, 1) := by decide +kernel
theorem dlaw_652 : decode claw 652 = .ok (.iaload, 1) := by decide +kernel
theorem dlaw_653 : decode claw 653 = .ok (.aload_n 0, 1) := by decide +kernel
theorem dlaw_654 : decode claw 654 = .ok (.iload_n 3, 1) := by decide +kernel
theorem dlaw_655 : decode claw 655 = .ok (.iconst 2, 1) := by decide +kernel
theorem dlaw_656 : decode claw 656 = .ok (.iadd, 1) := by decide +kernel
theorem dlaw_657 : decode claw 657 = .ok (.iaload, 1) := by decide +kernel
theorem dlaw_658 : decode claw 658 = .ok (.invokevirtual 64, 3) := by decide +kernel
theorem dlaw_661 : decode claw 661 = .ok (.if_icmp .eq 1679, 3) := by decide +kernel
theorem dlaw_664 : decode claw 664 = .ok (.iconst 0, 1) := by decide +kernel
theorem dlaw_665 : decode claw 665 = .ok (.ireturn, 1) := by decide +kernel
theorem dlaw_666 : decode claw 666 = .ok (.aload_n 1, 1) := by decide +kernel
theorem dlaw_667 : decode claw 667 = .ok (.aload_n 0, 1) := by decide +kernel
theorem dlaw_668 : decode claw 668 = .ok (.iload_n 3, 1) := by decide +kernel
theorem dlaw_669 : decode claw 669 = .ok (.iconst 1, 1) := by decide +kernel
theorem dlaw_670 : decode claw 670 = .ok (.iadd, 1) := by decide +kernel
theorem dlaw_671 : decode claw 671 = .ok (.iaload, 1) := by decide +kernel
theorem dlaw_672 : decode claw 672 = .ok (.aload_n 0, 1) := by decide +kernel
theorem dlaw_673 : decode claw 673 = .ok (.iload_n 3, 1) := by decide +kernel
theorem dlaw_674 : decode claw 674 = .ok (.iconst 2, 1) := by decide +kernel
theorem dlaw_675 : decode claw 675 = .ok (.iadd, 1) := by decide +kernel
theorem dlaw_676 : decode claw 676 = .ok (.iaload, 1) := by decide +kernel
theorem dlaw_677 : decode claw 677 = .ok (.invokevirtual 65, 3) := by decide +kernel
theorem dlaw_680 : decode claw 680 = .ok (.aload_n 2, 1) := by decide +kernel
theorem dlaw_681 : decode claw 681 = .ok (.aload_n 0, 1) := by decide +kernel
theorem dlaw_682 : decode claw 682 = .ok (.iload_n 3, 1) := by decide +kernel
theorem dlaw_683 : decode claw 683 = .ok (.iconst 1, 1) := by decide +kernel
theorem dlaw_684 : decode claw 684 = .ok (.iadd, 1) := by decide +kernel
theorem dlaw_685 : decode claw 685 = .ok (.iaload, 1) := by decide +kernel
theorem dlaw_686 : decode claw 686 = .ok (.aload_n 0, 1) := by decide +kernel
theorem dlaw_687 : decode claw 687 = .ok (.iload_n 3, 1) := by decide +kernel
theorem dlaw_688 : decode claw 688 = .ok (.iconst 2, 1) := by decide +kernel
theorem dlaw_689 : decode claw 689 = .ok (.iadd, 1) := by decide +kernel
theorem dlaw_690 : decode claw 690 = .ok (.iaload, 1) := by decide +kernel
theorem dlaw_691 : decode claw 691 = .ok (.invokevirtual 68, 3) := by decide +kernel
theorem dlaw_694 : decode claw 694 = .ok (.if_icmp .eq 1646, 3) := by decide +kernel
theorem dlaw_697 : decode claw 697 = .ok (.iconst 0, 1) := by decide +kernel
theorem dlaw_698 : decode claw 698 = .ok (.ireturn, 1) := by decide +kernel
theorem dlaw_699 : decode claw 699 = .ok (.aload_n 1, 1) := by decide +kernel
theorem dlaw_700 : decode claw 700 = .ok (.aload_n 0, 1) := by decide +kernel
theorem dlaw_701 : decode claw 701 = .ok (.iload_n 3, 1) := by decide +kernel
theorem dlaw_702 : decode claw 702 = .ok (.iconst 1, 1) := by decide +kernel
theorem dlaw_703 : decode claw 703 = .ok (.iadd, 1) := by decide +kernel
theorem dlaw_704 : decode claw 704 = .ok (.iaload, 1) := by decide +kernel
theorem dlaw_705 : decode claw 705 = .ok (.aload_n 0, 1) := by decide +kernel
theorem dlaw_706 : decode claw 706 = .ok (.iload_n 3, 1) := by decide +kernel
theorem dlaw_707 : decode claw 707 = .ok (.iconst 2, 1) := by decide +kernel
theorem dlaw_708 : decode claw 708 = .ok (.iadd, 1) := by decide +kernel
theorem dlaw_709 : decode claw 709 = .ok (.iaload, 1) := by decide +kernel
theorem dlaw_710 : decode claw 710 = .ok (.invokevirtual 69, 3) := by decide +kernel
theorem dlaw_713 : decode claw 713 = .ok (.aload_n 2, 1) := by decide +kernel
theorem dlaw_714 : decode claw 714 = .ok (.aload_n 0, 1) := by decide +kernel
theorem dlaw_715 : decode claw 715 = .ok (.iload_n 3, 1) := by decide +kernel
theorem dlaw_716 : decode claw 716 = .ok (.iconst 1, 1) := by decide +kernel
theorem dlaw_717 : decode claw 717 = .ok (.iadd, 1) := by decide +kernel
theorem dlaw_718 : decode claw 718 = .ok (.iaload, 1) := by decide +kernel
theorem dlaw_719 : decode claw 719 = .ok (.aload_n 0, 1) := by decide +kernel
theorem dlaw_720 : decode claw 720 = .ok (.iload_n 3, 1) := by decide +kernel
theorem dlaw_721 : decode claw 721 = .ok (.iconst 2, 1) := by decide +kernel
theorem dlaw_722 : decode claw 722 = .ok (.iadd, 1) := by decide +kernel
theorem dlaw_723 : decode claw 723 = .ok (.iaload, 1) := by decide +kernel
theorem dlaw_724 : decode claw 724 = .ok (.invokevirtual 72, 3) := by decide +kernel
theorem dlaw_727 : decode claw 727 = .ok (.if_icmp .eq 1613, 3) := by decide +kernel
theorem dlaw_730 : decode claw 730 = .ok (.iconst 0, 1) := by decide +kernel
theorem dlaw_731 : decode claw 731 = .ok (.ireturn, 1) := by decide +kernel
theorem dlaw_732 : decode claw 732 = .ok (.aload_n 1, 1) := by decide +kernel
theorem dlaw_733 : decode claw 733 = .ok (.aload_n 0, 1) := by decide +kernel
theorem dlaw_734 : decode claw 734 = .ok (.iload_n 3, 1) := by decide +kernel
theorem dlaw_735 : decode claw 735 = .ok (.iconst 1, 1) := by decide +kernel
theorem dlaw_736 : decode claw 736 = .ok (.iadd, 1) := by decide +kernel
theorem dlaw_737 : decode claw 737 = .ok (.iaload, 1) := by decide +kernel
theorem dlaw_738 : decode claw 738 = .ok (.aload_n 0, 1) := by decide +kernel
theorem dlaw_739 : decode claw 739 = .ok (.iload_n 3, 1) := by decide +kernel
theorem dlaw_740 : decode claw 740 = .ok (.iconst 2, 1) := by decide +kernel
theorem dlaw_741 : decode claw 741 = .ok (.iadd, 1) := by decide +kernel
theorem dlaw_742 : decode claw 742 = .ok (.iaload, 1) := by decide +kernel
theorem dlaw_743 : decode claw 743 = .ok (.aload_n 0, 1) := by decide +kernel
theorem dlaw_744 : decode claw 744 = .ok (.iload_n 3, 1) := by decide +kernel
theorem dlaw_745 : decode claw 745 = .ok (.iconst 3, 1) := by decide +kernel
theorem dlaw_746 : decode claw 746 = .ok (.iadd, 1) := by decide +kernel
theorem dlaw_747 : decode claw 747 = .ok (.iaload, 1) := by decide +kernel
theorem dlaw_748 : decode claw 748 = .ok (.invokevirtual 73, 3) := by decide +kernel
theorem dlaw_751 : decode claw 751 = .ok (.aload_n 2, 1) := by decide +kernel
theorem dlaw_752 : decode claw 752 = .ok (.aload_n 0, 1) := by decide +kernel
theorem dlaw_753 : decode claw 753 = .ok (.iload_n 3, 1) := by decide +kernel
theorem dlaw_754 : decode claw 754 = .ok (.iconst 1, 1) := by decide +kernel
theorem dlaw_755 : decode claw 755 = .ok (.iadd, 1) := by decide +kernel
theorem dlaw_756 : decode claw 756 = .ok (.iaload, 1) := by decide +kernel
theorem dlaw_757 : decode claw 757 = .ok (.aload_n 0, 1) := by decide +kernel
theorem dlaw_758 : decode claw 758 = .ok (.iload_n 3, 1) := by decide +kernel
theorem dlaw_759 : decode claw 759 = .ok (.iconst 2, 1) := by decide +kernel
theorem dlaw_760 : decode claw 760 = .ok (.iadd, 1) := by decide +kernel
theorem dlaw_761 : decode claw 761 = .ok (.iaload, 1) := by decide +kernel
theorem dlaw_762 : decode claw 762 = .ok (.aload_n 0, 1) := by decide +kernel
theorem dlaw_763 : decode claw 763 = .ok (.iload_n 3, 1) := by decide +kernel
theorem dlaw_764 : decode claw 764 = .ok (.iconst 3, 1) := by decide +kernel
theorem dlaw_765 : decode claw 765 = .ok (.iadd, 1) := by decide +kernel
theorem dlaw_766 : decode claw 766 = .ok (.iaload, 1) := by decide +kernel
theorem dlaw_767 : decode claw 767 = .ok (.invokevirtual 77, 3) := by decide +kernel
theorem dlaw_770 : decode claw 770 = .ok (.if_icmp .eq 1570, 3) := by decide +kernel
theorem dlaw_773 : decode claw 773 = .ok (.iconst 0, 1) := by decide +kernel
theorem dlaw_774 : decode claw 774 = .ok (.ireturn, 1) := by decide +kernel
theorem dlaw_775 : decode claw 775 = .ok (.aload_n 1, 1) := by decide +kernel
theorem dlaw_776 : decode claw 776 = .ok (.aload_n 0, 1) := by decide +kernel
theorem dlaw_777 : decode claw 777 = .ok (.iload_n 3, 1) := by decide +kernel
theorem dlaw_778 : decode claw 778 = .ok (.iconst 1, 1) := by decide +kernel
theorem dlaw_779 : decode claw 779 = .ok (.iadd, 1) := by decide +kernel
theorem dlaw_780 : decode claw 780 = .ok (.iaload, 1) := by decide +kernel
theorem dlaw_781 : decode claw 781 = .ok (.aload_n 0, 1) := by decide +kernel
theorem dlaw_782 : decode claw 782 = .ok (.iload_n 3, 1) := by decide +kernel
theorem dlaw_783 : decode claw 783 = .ok (.iconst 2, 1) := by decide +kernel
theorem dlaw_784 : decode claw 784 = .ok (.iadd, 1) := by decide +kernel
theorem dlaw_785 : decode claw 785 = .ok (.iaload, 1) := by decide +kernel
theorem dlaw_786 : decode claw 786 = .ok (.invokevirtual 78, 3) := by decide +kernel
theorem dlaw_789 : decode claw 789 = .ok (.aload_n 2, 1) := by decide +kernel
theorem dlaw_790 : decode claw 790 = .ok (.aload_n 0, 1) := by decide +kernel
theorem dlaw_791 : decode claw 791 = .ok (.iload_n 3, 1) := by decide +kernel
theorem dlaw_792 : decode claw 792 = .ok (.iconst 1, 1) := by decide +kernel
theorem dlaw_793 : decode claw 793 = .ok (.iadd, 1) := by decide +kernel
theorem dlaw_794 : decode claw 794 = .ok (.iaload, 1) := by decide +kernel
theorem dlaw_795 : decode claw 795 = .ok (.aload_n 0, 1) := by decide +kernel
theorem dlaw_796 : decode claw 796 = .ok (.iload_n 3, 1) := by decide +kernel
theorem dlaw_797 : decode claw 797 = .ok (.iconst 2, 1) := by decide +kernel
theorem dlaw_798 : decode claw 798 = .ok (.iadd, 1) := by decide +kernel
theorem dlaw_799 : decode claw 799 = .ok (.iaload, 1) := by decide +kernel
theorem dlaw_800 : decode claw 800 = .ok (.invokevirtual 81, 3) := by decide +kernel
theorem dlaw_803 : decode claw 803 = .ok (.if_icmp .eq 1537, 3) := by decide +kernel
theorem dlaw_806 : decode claw 806 = .ok (.iconst 0, 1) := by decide +kernel
theorem dlaw_807 : decode claw 807 = .ok (.ireturn, 1) := by decide +kernel
theorem dlaw_808 : decode claw 808 = .ok (.aload_n 1, 1) := by decide +kernel
theorem dlaw_809 : decode claw 809 = .ok (.aload_n 0, 1) := by decide +kernel
theorem dlaw_810 : decode claw 810 = .ok (.iload_n 3, 1) := by decide +kernel
theorem dlaw_811 : decode claw 811 = .ok (.iconst 1, 1) := by decide +kernel
theorem dlaw_812 : decode claw 812 = .ok (.iadd, 1) := by decide +kernel
theorem dlaw_813 : decode claw 813 = .ok (.iaload, 1) := by decide +kernel
theorem dlaw_814 : decode claw 814 = .ok (.aload_n 0, 1) := by decide +kernel
theorem dlaw_815 : decode claw 815 = .ok (.iload_n 3, 1) := by decide +kernel
theorem dlaw_816 : decode claw 816 = .ok (.iconst 2, 1) := by decide +kernel
theorem dlaw_817 : decode claw 817 = .ok (.iadd, 1) := by decide +kernel
theorem dlaw_818 : decode claw 818 = .ok (.iaload, 1) := by decide +kernel
theorem dlaw_819 : decode claw 819 = .ok (.invokevirtual 82, 3) := by decide +kernel
theorem dlaw_822 : decode claw 822 = .ok (.aload_n 2, 1) := by decide +kernel
theorem dlaw_823 : decode claw 823 = .ok (.aload_n 0, 1) := by decide +kernel
theorem dlaw_824 : decode claw 824 = .ok (.iload_n 3, 1) := by decide +kernel
theorem dlaw_825 : decode claw 825 = .ok (.iconst 1, 1) := by decide +kernel
theorem dlaw_826 : decode claw 826 = .ok (.iadd, 1) := by decide +kernel
theorem dlaw_827 : decode claw 827 = .ok (.iaload, 1) := by decide +kernel
theorem dlaw_828 : decode claw 828 = .ok (.aload_n 0, 1) := by decide +kernel
theorem dlaw_829 : decode claw 829 = .ok (.iload_n 3, 1) := by decide +kernel
theorem dlaw_830 : decode claw 830 = .ok (.iconst 2, 1) := by decide +kernel
theorem dlaw_831 : decode claw 831 = .ok (.iadd, 1) := by decide +kernel
theorem dlaw_832 : decode claw 832 = .ok (.iaload, 1) := by decide +kernel
theorem dlaw_833 : decode claw 833 = .ok (.invokevirtual 85, 3) := by decide +kernel
theorem dlaw_836 : decode claw 836 = .ok (.if_icmp .eq 1504, 3) := by decide +kernel
theorem dlaw_839 : decode claw 839 = .ok (.iconst 0, 1) := by decide +kernel
theorem dlaw_840 : decode claw 840 = .ok (.ireturn, 1) := by decide +kernel
theorem dlaw_841 : decode claw 841 = .ok (.aload_n 1, 1) := by decide +kernel
theorem dlaw_842 : decode claw 842 = .ok (.aload_n 0, 1) := by decide +kernel
theorem dlaw_843 : decode claw 843 = .ok (.iload_n 3, 1) := by decide +kernel
theorem dlaw_844 : decode claw 844 = .ok (.iconst 1, 1) := by decide +kernel
theorem dlaw_845 : decode claw 845 = .ok (.iadd, 1) := by decide +kernel
theorem dlaw_846 : decode claw 846 = .ok (.iaload, 1) := by decide +kernel
theorem dlaw_847 : decode claw 847 = .ok (.aload_n 0, 1) := by decide +kernel
theorem dlaw_848 : decode claw 848 = .ok (.iload_n 3, 1) := by decide +kernel
theorem dlaw_849 : decode claw 849 = .ok (.iconst 2, 1) := by decide +kernel
theorem dlaw_850 : decode claw 850 = .ok (.iadd, 1) := by decide +kernel
theorem dlaw_851 : decode claw 851 = .ok (.iaload, 1) := by decide +kernel
theorem dlaw_852 : decode claw 852 = .ok (.invokevirtual 86, 3) := by decide +kernel
theorem dlaw_855 : decode claw 855 = .ok (.aload_n 2, 1) := by decide +kernel
theorem dlaw_856 : decode claw 856 = .ok (.aload_n 0, 1) := by decide +kernel
theorem dlaw_857 : decode claw 857 = .ok (.iload_n 3, 1) := by decide +kernel
theorem dlaw_858 : decode claw 858 = .ok (.iconst 1, 1) := by decide +kernel
theorem dlaw_859 : decode claw 859 = .ok (.iadd, 1) := by decide +kernel
theorem dlaw_860 : decode claw 860 = .ok (.iaload, 1) := by decide +kernel
theorem dlaw_861 : decode claw 861 = .ok (.aload_n 0, 1) := by decide +kernel
theorem dlaw_862 : decode claw 862 = .ok (.iload_n 3, 1) := by decide +kernel
theorem dlaw_863 : decode claw 863 = .ok (.iconst 2, 1) := by decide +kernel
theorem dlaw_864 : decode claw 864 = .ok (.iadd, 1) := by decide +kernel
theorem dlaw_865 : decode claw 865 = .ok (.iaload, 1) := by decide +kernel
theorem dlaw_866 : decode claw 866 = .ok (.invokevirtual 89, 3) := by decide +kernel
theorem dlaw_869 : decode claw 869 = .ok (.if_icmp .eq 1471, 3) := by decide +kernel
theorem dlaw_872 : decode claw 872 = .ok (.iconst 0, 1) := by decide +kernel
theorem dlaw_873 : decode claw 873 = .ok (.ireturn, 1) := by decide +kernel
theorem dlaw_874 : decode claw 874 = .ok (.aload_n 1, 1) := by decide +kernel
theorem dlaw_875 : decode claw 875 = .ok (.aload_n 0, 1) := by decide +kernel
theorem dlaw_876 : decode claw 876 = .ok (.iload_n 3, 1) := by decide +kernel
theorem dlaw_877 : decode claw 877 = .ok (.iconst 1, 1) := by decide +kernel
theorem dlaw_878 : decode claw 878 = .ok (.iadd, 1) := by decide +kernel
theorem dlaw_879 : decode claw 879 = .ok (.iaload, 1) := by decide +kernel
theorem dlaw_880 : decode claw 880 = .ok (.invokevirtual 90, 3) := by decide +kernel
theorem dlaw_883 : decode claw 883 = .ok (.aload_n 2, 1) := by decide +kernel
theorem dlaw_884 : decode claw 884 = .ok (.aload_n 0, 1) := by decide +kernel
theorem dlaw_885 : decode claw 885 = .ok (.iload_n 3, 1) := by decide +kernel
theorem dlaw_886 : decode claw 886 = .ok (.iconst 1, 1) := by decide +kernel
theorem dlaw_887 : decode claw 887 = .ok (.iadd, 1) := by decide +kernel
theorem dlaw_888 : decode claw 888 = .ok (.iaload, 1) := by decide +kernel
theorem dlaw_889 : decode claw 889 = .ok (.invokevirtual 93, 3) := by decide +kernel
theorem dlaw_892 : decode claw 892 = .ok (.if_icmp .eq 1448, 3) := by decide +kernel
theorem dlaw_895 : decode claw 895 = .ok (.iconst 0, 1) := by decide +kernel
theorem dlaw_896 : decode claw 896 = .ok (.ireturn, 1) := by decide +kernel
theorem dlaw_897 : decode claw 897 = .ok (.aload_n 1, 1) := by decide +kernel
theorem dlaw_898 : decode claw 898 = .ok (.invokevirtual 94, 3) := by decide +kernel
theorem dlaw_901 : decode claw 901 = .ok (.aload_n 2, 1) := by decide +kernel
theorem dlaw_902 : decode claw 902 = .ok (.invokevirtual 97, 3) := by decide +kernel
theorem dlaw_905 : decode claw 905 = .ok (.if_icmp .eq 1435, 3) := by decide +kernel
theorem dlaw_908 : decode claw 908 = .ok (.iconst 0, 1) := by decide +kernel
theorem dlaw_909 : decode claw 909 = .ok (.ireturn, 1) := by decide +kernel
theorem dlaw_910 : decode claw 910 = .ok (.aload_n 1, 1) := by decide +kernel
theorem dlaw_911 : decode claw 911 = .ok (.aload_n 0, 1) := by decide +kernel
theorem dlaw_912 : decode claw 912 = .ok (.iload_n 3, 1) := by decide +kernel
theorem dlaw_913 : decode claw 913 = .ok (.iconst 1, 1) := by decide +kernel
theorem dlaw_914 : decode claw 914 = .ok (.iadd, 1) := by decide +kernel
theorem dlaw_915 : decode claw 915 = .ok (.iaload, 1) := by decide +kernel
theorem dlaw_916 : decode claw 916 = .ok (.invokevirtual 98, 3) := by decide +kernel
theorem dlaw_919 : decode claw 919 = .ok (.aload_n 2, 1) := by decide +kernel
theorem dlaw_920 : decode claw 920 = .ok (.aload_n 0, 1) := by decide +kernel
theorem dlaw_921 : decode claw 921 = .ok (.iload_n 3, 1) := by decide +kernel
theorem dlaw_922 : decode claw 922 = .ok (.iconst 1, 1) := by decide +kernel
theorem dlaw_923 : decode claw 923 = .ok (.iadd, 1) := by decide +kernel
theorem dlaw_924 : decode claw 924 = .ok (.iaload, 1) := by decide +kernel
theorem dlaw_925 : decode claw 925 = .ok (.invokevirtual 101, 3) := by decide +kernel
theorem dlaw_928 : decode claw 928 = .ok (.if_icmp .eq 1412, 3) := by decide +kernel
theorem dlaw_931 : decode claw 931 = .ok (.iconst 0, 1) := by decide +kernel
theorem dlaw_932 : decode claw 932 = .ok (.ireturn, 1) := by decide +kernel
theorem dlaw_933 : decode claw 933 = .ok (.aload_n 1, 1) := by decide +kernel
theorem dlaw_934 : decode claw 934 = .ok (.aload_n 0, 1) := by decide +kernel
theorem dlaw_935 : decode claw 935 = .ok (.iload_n 3, 1) := by decide +kernel
theorem dlaw_936 : decode claw 936 = .ok (.iconst 1, 1) := by decide +kernel
theorem dlaw_937 : decode claw 937 = .ok (.iadd, 1) := by decide +kernel
theorem dlaw_938 : decode claw 938 = .ok (.iaload, 1) := by decide +kernel
theorem dlaw_939 : decode claw 939 = .ok (.invokevirtual 102, 3) := by decide +kernel
theorem dlaw_942 : decode claw 942 = .ok (.aload_n 2, 1) := by decide +kernel
theorem dlaw_943 : decode claw 943 = .ok (.aload_n 0, 1) := by decide +kernel
theorem dlaw_944 : decode claw 944 = .ok (.iload_n 3, 1) := by decide +kernel
theorem dlaw_945 : decode claw 945 = .ok (.iconst 1, 1) := by decide +kernel
theorem dlaw_946 : decode claw 946 = .ok (.iadd, 1) := by decide +kernel
theorem dlaw_947 : decode claw 947 = .ok (.iaload, 1) := by decide +kernel
theorem dlaw_948 : decode claw 948 = .ok (.invokevirtual 105, 3) := by decide +kernel
theorem dlaw_951 : decode claw 951 = .ok (.if_icmp .eq 1389, 3) := by decide +kernel
theorem dlaw_954 : decode claw 954 = .ok (.iconst 0, 1) := by decide +kernel
theorem dlaw_955 : decode claw 955 = .ok (.ireturn, 1) := by decide +kernel
theorem dlaw_956 : decode claw 956 = .ok (.aload_n 1, 1) := by decide +kernel
theorem dlaw_957 : decode claw 957 = .ok (.aload_n 0, 1) := by decide +kernel
theorem dlaw_958 : decode claw 958 = .ok (.iload_n 3, 1) := by decide +kernel
theorem dlaw_959 : decode claw 959 = .ok (.iconst 1, 1) := by decide +kernel
theorem dlaw_960 : decode claw 960 = .ok (.iadd, 1) := by decide +kernel
theorem dlaw_961 : decode claw 961 = .ok (.iaload, 1) := by decide +kernel
theorem dlaw_962 : decode claw 962 = .ok (.invokevirtual 106, 3) := by decide +kernel
theorem dlaw_965 : decode claw 965 = .ok (.aload_n 2, 1) := by decide +kernel
theorem dlaw_966 : decode claw 966 = .ok (.aload_n 0, 1) := by decide +kernel
theorem dlaw_967 : decode claw 967 = .ok (.iload_n 3, 1) := by decide +kernel
theorem dlaw_968 : decode claw 968 = .ok (.iconst 1, 1) := by decide +kernel
theorem dlaw_969 : decode claw 969 = .ok (.iadd, 1) := by decide +kernel
theorem dlaw_970 : decode claw 970 = .ok (.iaload, 1) := by decide +kernel
theorem dlaw_971 : decode claw 971 = .ok (.invokevirtual 109, 3) := by decide +kernel
theorem dlaw_974 : decode claw 974 = .ok (.if_icmp .eq 1366, 3) := by decide +kernel
theorem dlaw_977 : decode claw 977 = .ok (.iconst 0, 1) := by decide +kernel
theorem dlaw_978 : decode claw 978 = .ok (.ireturn, 1) := by decide +kernel
theorem dlaw_979 : decode claw 979 = .ok (.aload_n 1, 1) := by decide +kernel
theorem dlaw_980 : decode claw 980 = .ok (.aload_n 0, 1) := by decide +kernel
theorem dlaw_981 : decode claw 981 = .ok (.iload_n 3, 1) := by decide +kernel
theorem dlaw_982 : decode claw 982 = .ok (.iconst 1, 1) := by decide +kernel
theorem dlaw_983 : decode claw 983 = .ok (.iadd, 1) := by decide +kernel
theorem dlaw_984 : decode claw 984 = .ok (.iaload, 1) := by decide +kernel
theorem dlaw_985 : decode claw 985 = .ok (.invokevirtual 110, 3) := by decide +kernel
theorem dlaw_988 : decode claw 988 = .ok (.aload_n 2, 1) := by decide +kernel
theorem dlaw_989 : decode claw 989 = .ok (.aload_n 0, 1) := by decide +kernel
theorem dlaw_990 : decode claw 990 = .ok (.iload_n 3, 1) := by decide +kernel
theorem dlaw_991 : decode claw 991 = .ok (.iconst 1, 1) := by decide +kernel
theorem dlaw_992 : decode claw 992 = .ok (.iadd, 1) := by decide +kernel
theorem dlaw_993 : decode claw 993 = .ok (.iaload, 1) := by decide +kernel
theorem dlaw_994 : decode claw 994 = .ok (.invokevirtual 113, 3) := by decide +kernel
theorem dlaw_997 : decode claw 997 = .ok (.if_icmp .eq 1343, 3) := by decide +kernel
theorem dlaw_1000 : decode claw 1000 = .ok (.iconst 0, 1) := by decide +kernel
theorem dlaw_1001 : decode claw 1001 = .ok (.ireturn, 1) := by decide +kernel
theorem dlaw_1002 : decode claw 1002 = .ok (.aload_n 1, 1) := by decide +kernel
theorem dlaw_1003 : decode claw 1003 = .ok (.aload_n 0, 1) := by decide +kernel
theorem dlaw_1004 : decode claw 1004 = .ok (.iload_n 3, 1) := by decide +kernel
theorem dlaw_1005 : decode claw 1005 = .ok (.iconst 1, 1) := by decide +kernel
theorem dlaw_1006 : decode claw 1006 = .ok (.iadd, 1) := by decide +kernel
theorem dlaw_1007 : decode claw 1007 = .ok (.iaload, 1) := by decide +kernel
theorem dlaw_1008 : decode claw 1008 = .ok (.invokevirtual 114, 3) := by decide +kernel
theorem dlaw_1011 : decode claw 1011 = .ok (.aload_n 2, 1) := by decide +kernel
theorem dlaw_1012 : decode claw 1012 = .ok (.aload_n 0, 1) := by decide +kernel
theorem dlaw_1013 : decode claw 1013 = .ok (.iload_n 3, 1) := by decide +kernel
theorem dlaw_1014 : decode claw 1014 = .ok (.iconst 1, 1) := by decide +kernel
theorem dlaw_1015 : decode claw 1015 = .ok (.iadd, 1) := by decide +kernel
theorem dlaw_1016 : decode claw 1016 = .ok (.iaload, 1) := by decide +kernel
theorem dlaw_1017 : decode claw 1017 = .ok (.invokevirtual 117, 3) := by decide +kernel
theorem dlaw_1020 : decode claw 1020 = .ok (.if_icmp .eq 1320, 3) := by decide +kernel
theorem dlaw_1023 : decode claw 1023 = .ok (.iconst 0, 1) := by decide +kernel
theorem dlaw_1024 : decode claw 1024 = .ok (.ireturn, 1) := by decide +kernel
theorem dlaw_1025 : decode claw 1025 = .ok (.aload_n 1, 1) := by decide +kernel
theorem dlaw_1026 : decode claw 1026 = .ok (.aload_n 0, 1) := by decide +kernel
theorem dlaw_1027 : decode claw 1027 = .ok (.iload_n 3, 1) := by decide +kernel
theorem dlaw_1028 : decode claw 1028 = .ok (.iconst 1, 1) := by decide +kernel
theorem dlaw_1029 : decode claw 1029 = .ok (.iadd, 1) := by decide +kernel
theorem dlaw_1030 : decode claw 1030 = .ok (.iaload, 1) := by decide +kernel
theorem dlaw_1031 : decode claw 1031 = .ok (.invokevirtual 118, 3) := by decide +kernel
theorem dlaw_1034 : decode claw 1034 = .ok (.aload_n 2, 1) := by decide +kernel
theorem dlaw_1035 : decode claw 1035 = .ok (.aload_n 0, 1) := by decide +kernel
theorem dlaw_1036 : decode claw 1036 = .ok (.iload_n 3, 1) := by decide +kernel
theorem dlaw_1037 : decode claw 1037 = .ok (.iconst 1, 1) := by decide +kernel
theorem dlaw_1038 : decode claw 1038 = .ok (.iadd, 1) := by decide +kernel
theorem dlaw_1039 : decode claw 1039 = .ok (.iaload, 1) := by decide +kernel
theorem dlaw_1040 : decode claw 1040 = .ok (.invokevirtual 121, 3) := by decide +kernel
theorem dlaw_1043 : decode claw 1043 = .ok (.if_icmp .eq 1297, 3) := by decide +kernel
theorem dlaw_1046 : decode claw 1046 = .ok (.iconst 0, 1) := by decide +kernel
theorem dlaw_1047 : decode claw 1047 = .ok (.ireturn, 1) := by decide +kernel
theorem dlaw_1048 : decode claw 1048 = .ok (.aload_n 1, 1) := by decide +kernel
theorem dlaw_1049 : decode claw 1049 = .ok (.aload_n 0, 1) := by decide +kernel
theorem dlaw_1050 : decode claw 1050 = .ok (.iload_n 3, 1) := by decide +kernel
theorem dlaw_1051 : decode claw 1051 = .ok (.iconst 1, 1) := by decide +kernel
theorem dlaw_1052 : decode claw 1052 = .ok (.iadd, 1) := by decide +kernel
theorem dlaw_1053 : decode claw 1053 = .ok (.iaload, 1) := by decide +kernel
theorem dlaw_1054 : decode claw 1054 = .ok (.invokevirtual 122, 3) := by decide +kernel
theorem dlaw_1057 : decode claw 1057 = .ok (.aload_n 2, 1) := by decide +kernel
theorem dlaw_1058 : decode claw 1058 = .ok (.aload_n 0, 1) := by decide +kernel
theorem dlaw_1059 : decode claw 1059 = .ok (.iload_n 3, 1) := by decide +kernel
theorem dlaw_1060 : decode claw 1060 = .ok (.iconst 1, 1) := by decide +kernel
theorem dlaw_1061 : decode claw 1061 = .ok (.iadd, 1) := by decide +kernel
theorem dlaw_1062 : decode claw 1062 = .ok (.iaload, 1) := by decide +kernel
theorem dlaw_1063 : decode claw 1063 = .ok (.invokevirtual 125, 3) := by decide +kernel
theorem dlaw_1066 : decode claw 1066 = .ok (.if_icmp .eq 1274, 3) := by decide +kernel
theorem dlaw_1069 : decode claw 1069 = .ok (.iconst 0, 1) := by decide +kernel
theorem dlaw_1070 : decode claw 1070 = .ok (.ireturn, 1) := by decide +kernel
theorem dlaw_1071 : decode claw 1071 = .ok (.aload_n 1, 1) := by decide +kernel
theorem dlaw_1072 : decode claw 1072 = .ok (.invokevirtual 126, 3) := by decide +kernel
theorem dlaw_1075 : decode claw 1075 = .ok (.aload_n 2, 1) := by decide +kernel
theorem dlaw_1076 : decode claw 1076 = .ok (.invokevirtual 129, 3) := by decide +kernel
theorem dlaw_1079 : decode claw 1079 = .ok (.if_icmp .eq 1261, 3) := by decide +kernel
theorem dlaw_1082 : decode claw 1082 = .ok (.iconst 0, 1) := by decide +kernel
theorem dlaw_1083 : decode claw 1083 = .ok (.ireturn, 1) := by decide +kernel
theorem dlaw_1084 : decode claw 1084 = .ok (.aload_n 1, 1) := by decide +kernel
theorem dlaw_1085 : decode claw 1085 = .ok (.invokevirtual 130, 3) := by decide +kernel
theorem dlaw_1088 : decode claw 1088 = .ok (.aload_n 2, 1) := by decide +kernel
theorem dlaw_1089 : decode claw 1089 = .ok (.invokevirtual 133, 3) := by decide +kernel
theorem dlaw_1092 : decode claw 1092 = .ok (.if_icmp .eq 1248, 3) := by decide +kernel
theorem dlaw_1095 : decode claw 1095 = .ok (.iconst 0, 1) := by decide +kernel
theorem dlaw_1096 : decode claw 1096 = .ok (.ireturn, 1) := by decide +kernel
theorem dlaw_1097 : decode claw 1097 = .ok (.aload_n 1, 1) := by decide +kernel
theorem dlaw_1098 : decode claw 1098 = .ok (.aload_n 0, 1) := by decide +kernel
theorem dlaw_1099 : decode claw 1099 = .ok (.iload_n 3, 1) := by decide +kernel
theorem dlaw_1100 : decode claw 1100 = .ok (.iconst 1, 1) := by decide +kernel
theorem dlaw_1101 : decode claw 1101 = .ok (.iadd, 1) := by decide +kernel
theorem dlaw_1102 : decode claw 1102 = .ok (.iaload, 1) := by decide +kernel
theorem dlaw_1103 : decode claw 1103 = .ok (.aload_n 0, 1) := by decide +kernel
theorem dlaw_1104 : decode claw 1104 = .ok (.iload_n 3, 1) := by decide +kernel
theorem dlaw_1105 : decode claw 1105 = .ok (.iconst 2, 1) := by decide +kernel
theorem dlaw_1106 : decode claw 1106 = .ok (.iadd, 1) := by decide +kernel
theorem dlaw_1107 : decode claw 1107 = .ok (.iaload, 1) := by decide +kernel
theorem dlaw_1108 : decode claw 1108 = .ok (.aload_n 0, 1) := by decide +kernel
theorem dlaw_1109 : decode claw 1109 = .ok (.iload_n 3, 1) := by decide +kernel
theorem dlaw_1110 : decode claw 1110 = .ok (.iconst 3, 1) := by decide +kernel
theorem dlaw_1111 : decode claw 1111 = .ok (.iadd, 1) := by decide +kernel
theorem dlaw_1112 : decode claw 1112 = .ok (.iaload, 1) := by decide +kernel
theorem dlaw_1113 : decode claw 1113 = .ok (.invokevirtual 134, 3) := by decide +kernel
theorem dlaw_1116 : decode claw 1116 = .ok (.aload_n 2, 1) := by decide +kernel
theorem dlaw_1117 : decode claw 1117 = .ok (.aload_n 0, 1) := by decide +kernel
theorem dlaw_1118 : decode claw 1118 = .ok (.iload_n 3, 1) := by decide +kernel
theorem dlaw_1119 : decode claw 1119 = .ok (.iconst 1, 1) := by decide +kernel
theorem dlaw_1120 : decode claw 1120 = .ok (.iadd, 1) := by decide +kernel
theorem dlaw_1121 : decode claw 1121 = .ok (.iaload, 1) := by decide +kernel
theorem dlaw_1122 : decode claw 1122 = .ok (.aload_n 0, 1) := by decide +kernel
theorem dlaw_1123 : decode claw 1123 = .ok (.iload_n 3, 1) := by decide +kernel
theorem dlaw_1124 : decode claw 1124 = .ok (.iconst 2, 1) := by decide +kernel
theorem dlaw_1125 : decode claw 1125 = .ok (.iadd, 1) := by decide +kernel
theorem dlaw_1126 : decode claw 1126 = .ok (.iaload, 1) := by decide +kernel
theorem dlaw_1127 : decode claw 1127 = .ok (.aload_n 0, 1) := by decide +kernel
theorem dlaw_1128 : decode claw 1128 = .ok (.iload_n 3, 1) := by decide +kernel
theorem dlaw_1129 : decode claw 1129 = .ok (.iconst 3, 1) := by decide +kernel
theorem dlaw_1130 : decode claw 1130 = .ok (.iadd, 1) := by decide +kernel
theorem dlaw_1131 : decode claw 1131 = .ok (.iaload, 1) := by decide +kernel
theorem dlaw_1132 : decode claw 1132 = .ok (.invokevirtual 137, 3) := by decide +kernel
theorem dlaw_1135 : decode claw 1135 = .ok (.if_icmp .eq 1205, 3) := by decide +kernel
theorem dlaw_1138 : decode claw 1138 = .ok (.iconst 0, 1) := by decide +kernel
theorem dlaw_1139 : decode claw 1139 = .ok (.ireturn, 1) := by decide +kernel
theorem dlaw_1140 : decode claw 1140 = .ok (.aload_n 1, 1) := by decide +kernel
theorem dlaw_1141 : decode claw 1141 = .ok (.aload_n 0, 1) := by decide +kernel
theorem dlaw_1142 : decode claw 1142 = .ok (.iload_n 3, 1) := by decide +kernel
theorem dlaw_1143 : decode claw 1143 = .ok (.iconst 1, 1) := by decide +kernel
theorem dlaw_1144 : decode claw 1144 = .ok (.iadd, 1) := by decide +kernel
theorem dlaw_1145 : decode claw 1145 = .ok (.iaload, 1) := by decide +kernel
theorem dlaw_1146 : decode claw 1146 = .ok (.aload_n 0, 1) := by decide +kernel
theorem dlaw_1147 : decode claw 1147 = .ok (.iload_n 3, 1) := by decide +kernel
theorem dlaw_1148 : decode claw 1148 = .ok (.iconst 2, 1) := by decide +kernel
theorem dlaw_1149 : decode claw 1149 = .ok (.iadd, 1) := by decide +kernel
theorem dlaw_1150 : decode claw 1150 = .ok (.iaload, 1) := by decide +kernel
theorem dlaw_1151 : decode claw 1151 = .ok (.aload_n 0, 1) := by decide +kernel
theorem dlaw_1152 : decode claw 1152 = .ok (.iload_n 3, 1) := by decide +kernel
theorem dlaw_1153 : decode claw 1153 = .ok (.iconst 3, 1) := by decide +kernel
theorem dlaw_1154 : decode claw 1154 = .ok (.iadd, 1) := by decide +kernel
theorem dlaw_1155 : decode claw 1155 = .ok (.iaload, 1) := by decide +kernel
theorem dlaw_1156 : decode claw 1156 = .ok (.invokevirtual 138, 3) := by decide +kernel
theorem dlaw_1159 : decode claw 1159 = .ok (.aload_n 2, 1) := by decide +kernel
theorem dlaw_1160 : decode claw 1160 = .ok (.aload_n 0, 1) := by decide +kernel
theorem dlaw_1161 : decode claw 1161 = .ok (.iload_n 3, 1) := by decide +kernel
theorem dlaw_1162 : decode claw 1162 = .ok (.iconst 1, 1) := by decide +kernel
theorem dlaw_1163 : decode claw 1163 = .ok (.iadd, 1) := by decide +kernel
theorem dlaw_1164 : decode claw 1164 = .ok (.iaload, 1) := by decide +kernel
theorem dlaw_1165 : decode claw 1165 = .ok (.aload_n 0, 1) := by decide +kernel
theorem dlaw_1166 : decode claw 1166 = .ok (.iload_n 3, 1) := by decide +kernel
theorem dlaw_1167 : decode claw 1167 = .ok (.iconst 2, 1) := by decide +kernel
theorem dlaw_1168 : decode claw 1168 = .ok (.iadd, 1) := by decide +kernel
theorem dlaw_1169 : decode claw 1169 = .ok (.iaload, 1) := by decide +kernel
theorem dlaw_1170 : decode claw 1170 = .ok (.aload_n 0, 1) := by decide +kernel
theorem dlaw_1171 : decode claw 1171 = .ok (.iload_n 3, 1) := by decide +kernel
theorem dlaw_1172 : decode claw 1172 = .ok (.iconst 3, 1) := by decide +kernel
theorem dlaw_1173 : decode claw 1173 = .ok (.iadd, 1) := by decide +kernel
theorem dlaw_1174 : decode claw 1174 = .ok (.iaload, 1) := by decide +kernel
theorem dlaw_1175 : decode claw 1175 = .ok (.invokevirtual 141, 3) := by decide +kernel
theorem dlaw_1178 : decode claw 1178 = .ok (.if_icmp .eq 1162, 3) := by decide +kernel
theorem dlaw_1181 : decode claw 1181 = .ok (.iconst 0, 1) := by decide +kernel
theorem dlaw_1182 : decode claw 1182 = .ok (.ireturn, 1) := by decide +kernel
theorem dlaw_1183 : decode claw 1183 = .ok (.aload_n 1, 1) := by decide +kernel
theorem dlaw_1184 : decode claw 1184 = .ok (.aload_n 0, 1) := by decide +kernel
theorem dlaw_1185 : decode claw 1185 = .ok (.iload_n 3, 1) := by decide +kernel
theorem dlaw_1186 : decode claw 1186 = .ok (.iconst 1, 1) := by decide +kernel
theorem dlaw_1187 : decode claw 1187 = .ok (.iadd, 1) := by decide +kernel
theorem dlaw_1188 : decode claw 1188 = .ok (.iaload, 1) := by decide +kernel
theorem dlaw_1189 : decode claw 1189 = .ok (.aload_n 0, 1) := by decide +kernel
theorem dlaw_1190 : decode claw 1190 = .ok (.iload_n 3, 1) := by decide +kernel
theorem dlaw_1191 : decode claw 1191 = .ok (.iconst 2, 1) := by decide +kernel
theorem dlaw_1192 : decode claw 1192 = .ok (.iadd, 1) := by decide +kernel
theorem dlaw_1193 : decode claw 1193 = .ok (.iaload, 1) := by decide +kernel
theorem dlaw_1194 : decode claw 1194 = .ok (.invokevirtual 142, 3) := by decide +kernel
theorem dlaw_1197 : decode claw 1197 = .ok (.aload_n 2, 1) := by decide +kernel
theorem dlaw_1198 : decode claw 1198 = .ok (.aload_n 0, 1) := by decide +kernel
theorem dlaw_1199 : decode claw 1199 = .ok (.iload_n 3, 1) := by decide +kernel
theorem dlaw_1200 : decode claw 1200 = .ok (.iconst 1, 1) := by decide +kernel
theorem dlaw_1201 : decode claw 1201 = .ok (.iadd, 1) := by decide +kernel
theorem dlaw_1202 : decode claw 1202 = .ok (.iaload, 1) := by decide +kernel
theorem dlaw_1203 : decode claw 1203 = .ok (.aload_n 0, 1) := by decide +kernel
theorem dlaw_1204 : decode claw 1204 = .ok (.iload_n 3, 1) := by decide +kernel
theorem dlaw_1205 : decode claw 1205 = .ok (.iconst 2, 1) := by decide +kernel
theorem dlaw_1206 : decode claw 1206 = .ok (.iadd, 1) := by decide +kernel
theorem dlaw_1207 : decode claw 1207 = .ok (.iaload, 1) := by decide +kernel
theorem dlaw_1208 : decode claw 1208 = .ok (.invokevirtual 145, 3) := by decide +kernel
theorem dlaw_1211 : decode claw 1211 = .ok (.if_icmp .eq 1129, 3) := by decide +kernel
theorem dlaw_1214 : decode claw 1214 = .ok (.iconst 0, 1) := by decide +kernel
theorem dlaw_1215 : decode claw 1215 = .ok (.ireturn, 1) := by decide +kernel
theorem dlaw_1216 : decode claw 1216 = .ok (.aload_n 1, 1) := by decide +kernel
theorem dlaw_1217 : decode claw 1217 = .ok (.aload_n 0, 1) := by decide +kernel
theorem dlaw_1218 : decode claw 1218 = .ok (.iload_n 3, 1) := by decide +kernel
theorem dlaw_1219 : decode claw 1219 = .ok (.iconst 1, 1) := by decide +kernel
theorem dlaw_1220 : decode claw 1220 = .ok (.iadd, 1) := by decide +kernel
theorem dlaw_1221 : decode claw 1221 = .ok (.iaload, 1) := by decide +kernel
theorem dlaw_1222 : decode claw 1222 = .ok (.aload_n 0, 1) := by decide +kernel
theorem dlaw_1223 : decode claw 1223 = .ok (.iload_n 3, 1) := by decide +kernel
theorem dlaw_1224 : decode claw 1224 = .ok (.iconst 2, 1) := by decide +kernel
theorem dlaw_1225 : decode claw 1225 = .ok (.iadd, 1) := by decide +kernel
theorem dlaw_1226 : decode claw 1226 = .ok (.iaload, 1) := by decide +kernel
theorem dlaw_1227 : decode claw 1227 = .ok (.invokevirtual 146, 3) := by decide +kernel
theorem dlaw_1230 : decode claw 1230 = .ok (.aload_n 2, 1) := by decide +kernel
theorem dlaw_1231 : decode claw 1231 = .ok (.aload_n 0, 1) := by decide +kernel
theorem dlaw_1232 : decode claw 1232 = .ok (.iload_n 3, 1) := by decide +kernel
theorem dlaw_1233 : decode claw 1233 = .ok (.iconst 1, 1) := by decide +kernel
theorem dlaw_1234 : decode claw 1234 = .ok (.iadd, 1) := by decide +kernel
theorem dlaw_1235 : decode claw 1235 = .ok (.iaload, 1) := by decide +kernel
theorem dlaw_1236 : decode claw 1236 = .ok (.aload_n 0, 1) := by decide +kernel
theorem dlaw_1237 : decode claw 1237 = .ok (.iload_n 3, 1) := by decide +kernel
theorem dlaw_1238 : decode claw 1238 = .ok (.iconst 2, 1) := by decide +kernel
theorem dlaw_1239 : decode claw 1239 = .ok (.iadd, 1) := by decide +kernel
theorem dlaw_1240 : decode claw 1240 = .ok (.iaload, 1) := by decide +kernel
theorem dlaw_1241 : decode claw 1241 = .ok (.invokevirtual 149, 3) := by decide +kernel
theorem dlaw_1244 : decode claw 1244 = .ok (.if_icmp .eq 1096, 3) := by decide +kernel
theorem dlaw_1247 : decode claw 1247 = .ok (.iconst 0, 1) := by decide +kernel
theorem dlaw_1248 : decode claw 1248 = .ok (.ireturn, 1) := by decide +kernel
theorem dlaw_1249 : decode claw 1249 = .ok (.aload_n 1, 1) := by decide +kernel
theorem dlaw_1250 : decode claw 1250 = .ok (.aload_n 0, 1) := by decide +kernel
theorem dlaw_1251 : decode claw 1251 = .ok (.iload_n 3, 1) := by decide +kernel
theorem dlaw_1252 : decode claw 1252 = .ok (.iconst 1, 1) := by decide +kernel
theorem dlaw_1253 : decode claw 1253 = .ok (.iadd, 1) := by decide +kernel
theorem dlaw_1254 : decode claw 1254 = .ok (.iaload, 1) := by decide +kernel
theorem dlaw_1255 : decode claw 1255 = .ok (.aload_n 0, 1) := by decide +kernel
theorem dlaw_1256 : decode claw 1256 = .ok (.iload_n 3, 1) := by decide +kernel
theorem dlaw_1257 : decode claw 1257 = .ok (.iconst 2, 1) := by decide +kernel
theorem dlaw_1258 : decode claw 1258 = .ok (.iadd, 1) := by decide +kernel
theorem dlaw_1259 : decode claw 1259 = .ok (.iaload, 1) := by decide +kernel
theorem dlaw_1260 : decode claw 1260 = .ok (.invokevirtual 150, 3) := by decide +kernel
theorem dlaw_1263 : decode claw 1263 = .ok (.aload_n 2, 1) := by decide +kernel
theorem dlaw_1264 : decode claw 1264 = .ok (.aload_n 0, 1) := by decide +kernel
theorem dlaw_1265 : decode claw 1265 = .ok (.iload_n 3, 1) := by decide +kernel
theorem dlaw_1266 : decode claw 1266 = .ok (.iconst 1, 1) := by decide +kernel
theorem dlaw_1267 : decode claw 1267 = .ok (.iadd, 1) := by decide +kernel
theorem dlaw_1268 : decode claw 1268 = .ok (.iaload, 1) := by decide +kernel
theorem dlaw_1269 : decode claw 1269 = .ok (.aload_n 0, 1) := by decide +kernel
theorem dlaw_1270 : decode claw 1270 = .ok (.iload_n 3, 1) := by decide +kernel
theorem dlaw_1271 : decode claw 1271 = .ok (.iconst 2, 1) := by decide +kernel
theorem dlaw_1272 : decode claw 1272 = .ok (.iadd, 1) := by decide +kernel
theorem dlaw_1273 : decode claw 1273 = .ok (.iaload, 1) := by decide +kernel
theorem dlaw_1274 : decode claw 1274 = .ok (.invokevirtual 153, 3) := by decide +kernel
theorem dlaw_1277 : decode claw 1277 = .ok (.if_icmp .eq 1063, 3) := by decide +kernel
theorem dlaw_1280 : decode claw 1280 = .ok (.iconst 0, 1) := by decide +kernel
theorem dlaw_1281 : decode claw 1281 = .ok (.ireturn, 1) := by decide +kernel
theorem dlaw_1282 : decode claw 1282 = .ok (.aload_n 1, 1) := by decide +kernel
theorem dlaw_1283 : decode claw 1283 = .ok (.aload_n 0, 1) := by decide +kernel
theorem dlaw_1284 : decode claw 1284 = .ok (.iload_n 3, 1) := by decide +kernel
theorem dlaw_1285 : decode claw 1285 = .ok (.iconst 1, 1) := by decide +kernel
theorem dlaw_1286 : decode claw 1286 = .ok (.iadd, 1) := by decide +kernel
theorem dlaw_1287 : decode claw 1287 = .ok (.iaload, 1) := by decide +kernel
theorem dlaw_1288 : decode claw 1288 = .ok (.aload_n 0, 1) := by decide +kernel
theorem dlaw_1289 : decode claw 1289 = .ok (.iload_n 3, 1) := by decide +kernel
theorem dlaw_1290 : decode claw 1290 = .ok (.iconst 2, 1) := by decide +kernel
theorem dlaw_1291 : decode claw 1291 = .ok (.iadd, 1) := by decide +kernel
theorem dlaw_1292 : decode claw 1292 = .ok (.iaload, 1) := by decide +kernel
theorem dlaw_1293 : decode claw 1293 = .ok (.aload_n 0, 1) := by decide +kernel
theorem dlaw_1294 : decode claw 1294 = .ok (.iload_n 3, 1) := by decide +kernel
theorem dlaw_1295 : decode claw 1295 = .ok (.iconst 3, 1) := by decide +kernel
theorem dlaw_1296 : decode claw 1296 = .ok (.iadd, 1) := by decide +kernel
theorem dlaw_1297 : decode claw 1297 = .ok (.iaload, 1) := by decide +kernel
theorem dlaw_1298 : decode claw 1298 = .ok (.invokevirtual 154, 3) := by decide +kernel
theorem dlaw_1301 : decode claw 1301 = .ok (.aload_n 2, 1) := by decide +kernel
theorem dlaw_1302 : decode claw 1302 = .ok (.aload_n 0, 1) := by decide +kernel
theorem dlaw_1303 : decode claw 1303 = .ok (.iload_n 3, 1) := by decide +kernel
theorem dlaw_1304 : decode claw 1304 = .ok (.iconst 1, 1) := by decide +kernel
theorem dlaw_1305 : decode claw 1305 = .ok (.iadd, 1) := by decide +kernel
theorem dlaw_1306 : decode claw 1306 = .ok (.iaload, 1) := by decide +kernel
theorem dlaw_1307 : decode claw 1307 = .ok (.aload_n 0, 1) := by decide +kernel
theorem dlaw_1308 : decode claw 1308 = .ok (.iload_n 3, 1) := by decide +kernel
theorem dlaw_1309 : decode claw 1309 = .ok (.iconst 2, 1) := by decide +kernel
theorem dlaw_1310 : decode claw 1310 = .ok (.iadd, 1) := by decide +kernel
theorem dlaw_1311 : decode claw 1311 = .ok (.iaload, 1) := by decide +kernel
theorem dlaw_1312 : decode claw 1312 = .ok (.aload_n 0, 1) := by decide +kernel
theorem dlaw_1313 : decode claw 1313 = .ok (.iload_n 3, 1) := by decide +kernel
theorem dlaw_1314 : decode claw 1314 = .ok (.iconst 3, 1) := by decide +kernel
theorem dlaw_1315 : decode claw 1315 = .ok (.iadd, 1) := by decide +kernel
theorem dlaw_1316 : decode claw 1316 = .ok (.iaload, 1) := by decide +kernel
theorem dlaw_1317 : decode claw 1317 = .ok (.invokevirtual 157, 3) := by decide +kernel
theorem dlaw_1320 : decode claw 1320 = .ok (.if_icmp .eq 1020, 3) := by decide +kernel
theorem dlaw_1323 : decode claw 1323 = .ok (.iconst 0, 1) := by decide +kernel
theorem dlaw_1324 : decode claw 1324 = .ok (.ireturn, 1) := by decide +kernel
theorem dlaw_1325 : decode claw 1325 = .ok (.aload_n 1, 1) := by decide +kernel
theorem dlaw_1326 : decode claw 1326 = .ok (.aload_n 0, 1) := by decide +kernel
theorem dlaw_1327 : decode claw 1327 = .ok (.iload_n 3, 1) := by decide +kernel
theorem dlaw_1328 : decode claw 1328 = .ok (.iconst 1, 1) := by decide +kernel
theorem dlaw_1329 : decode claw 1329 = .ok (.iadd, 1) := by decide +kernel
theorem dlaw_1330 : decode claw 1330 = .ok (.iaload, 1) := by decide +kernel
theorem dlaw_1331 : decode claw 1331 = .ok (.aload_n 0, 1) := by decide +kernel
theorem dlaw_1332 : decode claw 1332 = .ok (.iload_n 3, 1) := by decide +kernel
theorem dlaw_1333 : decode claw 1333 = .ok (.iconst 2, 1) := by decide +kernel
theorem dlaw_1334 : decode claw 1334 = .ok (.iadd, 1) := by decide +kernel
theorem dlaw_1335 : decode claw 1335 = .ok (.iaload, 1) := by decide +kernel
theorem dlaw_1336 : decode claw 1336 = .ok (.aload_n 0, 1) := by decide +kernel
theorem dlaw_1337 : decode claw 1337 = .ok (.iload_n 3, 1) := by decide +kernel
theorem dlaw_1338 : decode claw 1338 = .ok (.iconst 3, 1) := by decide +kernel
theorem dlaw_1339 : decode claw 1339 = .ok (.iadd, 1) := by decide +kernel
theorem dlaw_1340 : decode claw 1340 = .ok (.iaload, 1) := by decide +kernel
theorem dlaw_1341 : decode claw 1341 = .ok (.invokevirtual 158, 3) := by decide +kernel
theorem dlaw_1344 : decode claw 1344 = .ok (.aload_n 2, 1) := by decide +kernel
theorem dlaw_1345 : decode claw 1345 = .ok (.aload_n 0, 1) := by decide +kernel
theorem dlaw_1346 : decode claw 1346 = .ok (.iload_n 3, 1) := by decide +kernel
theorem dlaw_1347 : decode claw 1347 = .ok (.iconst 1, 1) := by decide +kernel
theorem dlaw_1348 : decode claw 1348 = .ok (.iadd, 1) := by decide +kernel
theorem dlaw_1349 : decode claw 1349 = .ok (.iaload, 1) := by decide +kernel
theorem dlaw_1350 : decode claw 1350 = .ok (.aload_n 0, 1) := by decide +kernel
theorem dlaw_1351 : decode claw 1351 = .ok (.iload_n 3, 1) := by decide +kernel
theorem dlaw_1352 : decode claw 1352 = .ok (.iconst 2, 1) := by decide +kernel
theorem dlaw_1353 : decode claw 1353 = .ok (.iadd, 1) := by decide +kernel
theorem dlaw_1354 : decode claw 1354 = .ok (.iaload, 1) := by decide +kernel
theorem dlaw_1355 : decode claw 1355 = .ok (.aload_n 0, 1) := by decide +kernel
theorem dlaw_1356 : decode claw 1356 = .ok (.iload_n 3, 1) := by decide +kernel
theorem dlaw_1357 : decode claw 1357 = .ok (.iconst 3, 1) := by decide +kernel
theorem dlaw_1358 : decode claw 1358 = .ok (.iadd, 1) := by decide +kernel
theorem dlaw_1359 : decode claw 1359 = .ok (.iaload, 1) := by decide +kernel
theorem dlaw_1360 : decode claw 1360 = .ok (.invokevirtual 161, 3) := by decide +kernel
theorem dlaw_1363 : decode claw 1363 = .ok (.if_icmp .eq 977, 3) := by decide +kernel
theorem dlaw_1366 : decode claw 1366 = .ok (.iconst 0, 1) := by decide +kernel
theorem dlaw_1367 : decode claw 1367 = .ok (.ireturn, 1) := by decide +kernel
theorem dlaw_1368 : decode claw 1368 = .ok (.aload_n 1, 1) := by decide +kernel
theorem dlaw_1369 : decode claw 1369 = .ok (.aload_n 0, 1) := by decide +kernel
theorem dlaw_1370 : decode claw 1370 = .ok (.iload_n 3, 1) := by decide +kernel
theorem dlaw_1371 : decode claw 1371 = .ok (.iconst 1, 1) := by decide +kernel
theorem dlaw_1372 : decode claw 1372 = .ok (.iadd, 1) := by decide +kernel
theorem dlaw_1373 : decode claw 1373 = .ok (.iaload, 1) := by decide +kernel
theorem dlaw_1374 : decode claw 1374 = .ok (.aload_n 0, 1) := by decide +kernel
theorem dlaw_1375 : decode claw 1375 = .ok (.iload_n 3, 1) := by decide +kernel
theorem dlaw_1376 : decode claw 1376 = .ok (.iconst 2, 1) := by decide +kernel
theorem dlaw_1377 : decode claw 1377 = .ok (.iadd, 1) := by decide +kernel
theorem dlaw_1378 : decode claw 1378 = .ok (.iaload, 1) := by decide +kernel
theorem dlaw_1379 : decode claw 1379 = .ok (.invokevirtual 162, 3) := by decide +kernel
theorem dlaw_1382 : decode claw 1382 = .ok (.aload_n 2, 1) := by decide +kernel
theorem dlaw_1383 : decode claw 1383 = .ok (.aload_n 0, 1) := by decide +kernel
theorem dlaw_1384 : decode claw 1384 = .ok (.iload_n 3, 1) := by decide +kernel
theorem dlaw_1385 : decode claw 1385 = .ok (.iconst 1, 1) := by decide +kernel
theorem dlaw_1386 : decode claw 1386 = .ok (.iadd, 1) := by decide +kernel
theorem dlaw_1387 : decode claw 1387 = .ok (.iaload, 1) := by decide +kernel
theorem dlaw_1388 : decode claw 1388 = .ok (.aload_n 0, 1) := by decide +kernel
theorem dlaw_1389 : decode claw 1389 = .ok (.iload_n 3, 1) := by decide +kernel
theorem dlaw_1390 : decode claw 1390 = .ok (.iconst 2, 1) := by decide +kernel
theorem dlaw_1391 : decode claw 1391 = .ok (.iadd, 1) := by decide +kernel
theorem dlaw_1392 : decode claw 1392 = .ok (.iaload, 1) := by decide +kernel
theorem dlaw_1393 : decode claw 1393 = .ok (.invokevirtual 165, 3) := by decide +kernel
theorem dlaw_1396 : decode claw 1396 = .ok (.if_icmp .eq 944, 3) := by decide +kernel
theorem dlaw_1399 : decode claw 1399 = .ok (.iconst 0, 1) := by decide +kernel
theorem dlaw_1400 : decode claw 1400 = .ok (.ireturn, 1) := by decide +kernel
theorem dlaw_1401 : decode claw 1401 = .ok (.aload_n 1, 1) := by decide +kernel
theorem dlaw_1402 : decode claw 1402 = .ok (.aload_n 0, 1) := by decide +kernel
theorem dlaw_1403 : decode claw 1403 = .ok (.iload_n 3, 1) := by decide +kernel
theorem dlaw_1404 : decode claw 1404 = .ok (.iconst 1, 1) := by decide +kernel
theorem dlaw_1405 : decode claw 1405 = .ok (.iadd, 1) := by decide +kernel
theorem dlaw_1406 : decode claw 1406 = .ok (.iaload, 1) := by decide +kernel
theorem dlaw_1407 : decode claw 1407 = .ok (.aload_n 0, 1) := by decide +kernel
theorem dlaw_1408 : decode claw 1408 = .ok (.iload_n 3, 1) := by decide +kernel
theorem dlaw_1409 : decode claw 1409 = .ok (.iconst 2, 1) := by decide +kernel
theorem dlaw_1410 : decode claw 1410 = .ok (.iadd, 1) := by decide +kernel
theorem dlaw_1411 : decode claw 1411 = .ok (.iaload, 1) := by decide +kernel
theorem dlaw_1412 : decode claw 1412 = .ok (.aload_n 0, 1) := by decide +kernel
theorem dlaw_1413 : decode claw 1413 = .ok (.iload_n 3, 1) := by decide +kernel
theorem dlaw_1414 : decode claw 1414 = .ok (.iconst 3, 1) := by decide +kernel
theorem dlaw_1415 : decode claw 1415 = .ok (.iadd, 1) := by decide +kernel
theorem dlaw_1416 : decode claw 1416 = .ok (.iaload, 1) := by decide +kernel
theorem dlaw_1417 : decode claw 1417 = .ok (.invokevirtual 166, 3) := by decide +kernel
theorem dlaw_1420 : decode claw 1420 = .ok (.aload_n 2, 1) := by decide +kernel
theorem dlaw_1421 : decode claw 1421 = .ok (.aload_n 0, 1) := by decide +kernel
theorem dlaw_1422 : decode claw 1422 = .ok (.iload_n 3, 1) := by decide +kernel
theorem dlaw_1423 : decode claw 1423 = .ok (.iconst 1, 1) := by decide +kernel
theorem dlaw_1424 : decode claw 1424 = .ok (.iadd, 1) := by decide +kernel
theorem dlaw_1425 : decode claw 1425 = .ok (.iaload, 1) := by decide +kernel
theorem dlaw_1426 : decode claw 1426 = .ok (.aload_n 0, 1) := by decide +kernel
theorem dlaw_1427 : decode claw 1427 = .ok (.iload_n 3, 1) := by decide +kernel
theorem dlaw_1428 : decode claw 1428 = .ok (.iconst 2, 1) := by decide +kernel
theorem dlaw_1429 : decode claw 1429 = .ok (.iadd, 1) := by decide +kernel
theorem dlaw_1430 : decode claw 1430 = .ok (.iaload, 1) := by decide +kernel
theorem dlaw_1431 : decode claw 1431 = .ok (.aload_n 0, 1) := by decide +kernel
theorem dlaw_1432 : decode claw 1432 = .ok (.iload_n 3, 1) := by decide +kernel
theorem dlaw_1433 : decode claw 1433 = .ok (.iconst 3, 1) := by decide +kernel
theorem dlaw_1434 : decode claw 1434 = .ok (.iadd, 1) := by decide +kernel
theorem dlaw_1435 : decode claw 1435 = .ok (.iaload, 1) := by decide +kernel
theorem dlaw_1436 : decode claw 1436 = .ok (.invokevirtual 169, 3) := by decide +kernel
theorem dlaw_1439 : decode claw 1439 = .ok (.if_icmp .eq 901, 3) := by decide +kernel
theorem dlaw_1442 : decode claw 1442 = .ok (.iconst 0, 1) := by decide +kernel
theorem dlaw_1443 : decode claw 1443 = .ok (.ireturn, 1) := by decide +kernel
theorem dlaw_1444 : decode claw 1444 = .ok (.aload_n 1, 1) := by decide +kernel
theorem dlaw_1445 : decode claw 1445 = .ok (.aload_n 0, 1) := by decide +kernel
theorem dlaw_1446 : decode claw 1446 = .ok (.iload_n 3, 1) := by decide +kernel
theorem dlaw_1447 : decode claw 1447 = .ok (.iconst 1, 1) := by decide +kernel
theorem dlaw_1448 : decode claw 1448 = .ok (.iadd, 1) := by decide +kernel
theorem dlaw_1449 : decode claw 1449 = .ok (.iaload, 1) := by decide +kernel
theorem dlaw_1450 : decode claw 1450 = .ok (.invokevirtual 170, 3) := by decide +kernel
theorem dlaw_1453 : decode claw 1453 = .ok (.aload_n 2, 1) := by decide +kernel
theorem dlaw_1454 : decode claw 1454 = .ok (.aload_n 0, 1) := by decide +kernel
theorem dlaw_1455 : decode claw 1455 = .ok (.iload_n 3, 1) := by decide +kernel
theorem dlaw_1456 : decode claw 1456 = .ok (.iconst 1, 1) := by decide +kernel
theorem dlaw_1457 : decode claw 1457 = .ok (.iadd, 1) := by decide +kernel
theorem dlaw_1458 : decode claw 1458 = .ok (.iaload, 1) := by decide +kernel
theorem dlaw_1459 : decode claw 1459 = .ok (.invokevirtual 173, 3) := by decide +kernel
theorem dlaw_1462 : decode claw 1462 = .ok (.if_icmp .eq 878, 3) := by decide +kernel
theorem dlaw_1465 : decode claw 1465 = .ok (.iconst 0, 1) := by decide +kernel
theorem dlaw_1466 : decode claw 1466 = .ok (.ireturn, 1) := by decide +kernel
theorem dlaw_1467 : decode claw 1467 = .ok (.aload_n 1, 1) := by decide +kernel
theorem dlaw_1468 : decode claw 1468 = .ok (.aload_n 0, 1) := by decide +kernel
theorem dlaw_1469 : decode claw 1469 = .ok (.iload_n 3, 1) := by decide +kernel
theorem dlaw_1470 : decode claw 1470 = .ok (.iconst 1, 1) := by decide +kernel
theorem dlaw_1471 : decode claw 1471 = .ok (.iadd, 1) := by decide +kernel
theorem dlaw_1472 : decode claw 1472 = .ok (.iaload, 1) := by decide +kernel
theorem dlaw_1473 : decode claw 1473 = .ok (.aload_n 0, 1) := by decide +kernel
theorem dlaw_1474 : decode claw 1474 = .ok (.iload_n 3, 1) := by decide +kernel
theorem dlaw_1475 : decode claw 1475 = .ok (.iconst 2, 1) := by decide +kernel
theorem dlaw_1476 : decode claw 1476 = .ok (.iadd, 1) := by decide +kernel
theorem dlaw_1477 : decode claw 1477 = .ok (.iaload, 1) := by decide +kernel
theorem dlaw_1478 : decode claw 1478 = .ok (.invokevirtual 174, 3) := by decide +kernel
theorem dlaw_1481 : decode claw 1481 = .ok (.aload_n 2, 1) := by decide +kernel
theorem dlaw_1482 : decode claw 1482 = .ok (.aload_n 0, 1) := by decide +kernel
theorem dlaw_1483 : decode claw 1483 = .ok (.iload_n 3, 1) := by decide +kernel
theorem dlaw_1484 : decode claw 1484 = .ok (.iconst 1, 1) := by decide +kernel
theorem dlaw_1485 : decode claw 1485 = .ok (.iadd, 1) := by decide +kernel
theorem dlaw_1486 : decode claw 1486 = .ok (.iaload, 1) := by decide +kernel
theorem dlaw_1487 : decode claw 1487 = .ok (.aload_n 0, 1) := by decide +kernel
theorem dlaw_1488 : decode claw 1488 = .ok (.iload_n 3, 1) := by decide +kernel
theorem dlaw_1489 : decode claw 1489 = .ok (.iconst 2, 1) := by decide +kernel
theorem dlaw_1490 : decode claw 1490 = .ok (.iadd, 1) := by decide +kernel
theorem dlaw_1491 : decode claw 1491 = .ok (.iaload, 1) := by decide +kernel
theorem dlaw_1492 : decode claw 1492 = .ok (.invokevirtual 177, 3) := by decide +kernel
theorem dlaw_1495 : decode claw 1495 = .ok (.if_icmp .eq 845, 3) := by decide +kernel
theorem dlaw_1498 : decode claw 1498 = .ok (.iconst 0, 1) := by decide +kernel
theorem dlaw_1499 : decode claw 1499 = .ok (.ireturn, 1) := by decide +kernel
theorem dlaw_1500 : decode claw 1500 = .ok (.aload_n 1, 1) := by decide +kernel
theorem dlaw_1501 : decode claw 1501 = .ok (.aload_n 0, 1) := by decide +kernel
theorem dlaw_1502 : decode claw 1502 = .ok (.iload_n 3, 1) := by decide +kernel
theorem dlaw_1503 : decode claw 1503 = .ok (.iconst 1, 1) := by decide +kernel
theorem dlaw_1504 : decode claw 1504 = .ok (.iadd, 1) := by decide +kernel
theorem dlaw_1505 : decode claw 1505 = .ok (.iaload, 1) := by decide +kernel
theorem dlaw_1506 : decode claw 1506 = .ok (.invokevirtual 178, 3) := by decide +kernel
theorem dlaw_1509 : decode claw 1509 = .ok (.aload_n 2, 1) := by decide +kernel
theorem dlaw_1510 : decode claw 1510 = .ok (.aload_n 0, 1) := by decide +kernel
theorem dlaw_1511 : decode claw 1511 = .ok (.iload_n 3, 1) := by decide +kernel
theorem dlaw_1512 : decode claw 1512 = .ok (.iconst 1, 1) := by decide +kernel
theorem dlaw_1513 : decode claw 1513 = .ok (.iadd, 1) := by decide +kernel
theorem dlaw_1514 : decode claw 1514 = .ok (.iaload, 1) := by decide +kernel
theorem dlaw_1515 : decode claw 1515 = .ok (.invokevirtual 181, 3) := by decide +kernel
theorem dlaw_1518 : decode claw 1518 = .ok (.if_icmp .eq 822, 3) := by decide +kernel
theorem dlaw_1521 : decode claw 1521 = .ok (.iconst 0, 1) := by decide +kernel
theorem dlaw_1522 : decode claw 1522 = .ok (.ireturn, 1) := by decide +kernel
theorem dlaw_1523 : decode claw 1523 = .ok (.aload_n 1, 1) := by decide +kernel
theorem dlaw_1524 : decode claw 1524 = .ok (.aload_n 0, 1) := by decide +kernel
theorem dlaw_1525 : decode claw 1525 = .ok (.iload_n 3, 1) := by decide +kernel
theorem dlaw_1526 : decode claw 1526 = .ok (.iconst 1, 1) := by decide +kernel
theorem dlaw_1527 : decode claw 1527 = .ok (.iadd, 1) := by decide +kernel
theorem dlaw_1528 : decode claw 1528 = .ok (.iaload, 1) := by decide +kernel
theorem dlaw_1529 : decode claw 1529 = .ok (.aload_n 0, 1) := by decide +kernel
theorem dlaw_1530 : decode claw 1530 = .ok (.iload_n 3, 1) := by decide +kernel
theorem dlaw_1531 : decode claw 1531 = .ok (.iconst 2, 1) := by decide +kernel
theorem dlaw_1532 : decode claw 1532 = .ok (.iadd, 1) := by decide +kernel
theorem dlaw_1533 : decode claw 1533 = .ok (.iaload, 1) := by decide +kernel
theorem dlaw_1534 : decode claw 1534 = .ok (.invokevirtual 182, 3) := by decide +kernel
theorem dlaw_1537 : decode claw 1537 = .ok (.aload_n 2, 1) := by decide +kernel
theorem dlaw_1538 : decode claw 1538 = .ok (.aload_n 0, 1) := by decide +kernel
theorem dlaw_1539 : decode claw 1539 = .ok (.iload_n 3, 1) := by decide +kernel
theorem dlaw_1540 : decode claw 1540 = .ok (.iconst 1, 1) := by decide +kernel
theorem dlaw_1541 : decode claw 1541 = .ok (.iadd, 1) := by decide +kernel
theorem dlaw_1542 : decode claw 1542 = .ok (.iaload, 1) := by decide +kernel
theorem dlaw_1543 : decode claw 1543 = .ok (.aload_n 0, 1) := by decide +kernel
theorem dlaw_1544 : decode claw 1544 = .ok (.iload_n 3, 1) := by decide +kernel
theorem dlaw_1545 : decode claw 1545 = .ok (.iconst 2, 1) := by decide +kernel
theorem dlaw_1546 : decode claw 1546 = .ok (.iadd, 1) := by decide +kernel
theorem dlaw_1547 : decode claw 1547 = .ok (.iaload, 1) := by decide +kernel
theorem dlaw_1548 : decode claw 1548 = .ok (.invokevirtual 185, 3) := by decide +kernel
theorem dlaw_1551 : decode claw 1551 = .ok (.if_icmp .eq 789, 3) := by decide +kernel
theorem dlaw_1554 : decode claw 1554 = .ok (.iconst 0, 1) := by decide +kernel
theorem dlaw_1555 : decode claw 1555 = .ok (.ireturn, 1) := by decide +kernel
theorem dlaw_1556 : decode claw 1556 = .ok (.aload_n 1, 1) := by decide +kernel
theorem dlaw_1557 : decode claw 1557 = .ok (.aload_n 0, 1) := by decide +kernel
theorem dlaw_1558 : decode claw 1558 = .ok (.iload_n 3, 1) := by decide +kernel
theorem dlaw_1559 : decode claw 1559 = .ok (.iconst 1, 1) := by decide +kernel
theorem dlaw_1560 : decode claw 1560 = .ok (.iadd, 1) := by decide +kernel
theorem dlaw_1561 : decode claw 1561 = .ok (.iaload, 1) := by decide +kernel
theorem dlaw_1562 : decode claw 1562 = .ok (.aload_n 0, 1) := by decide +kernel
theorem dlaw_1563 : decode claw 1563 = .ok (.iload_n 3, 1) := by decide +kernel
theorem dlaw_1564 : decode claw 1564 = .ok (.iconst 2, 1) := by decide +kernel
theorem dlaw_1565 : decode claw 1565 = .ok (.iadd, 1) := by decide +kernel
theorem dlaw_1566 : decode claw 1566 = .ok (.iaload, 1) := by decide +kernel
theorem dlaw_1567 : decode claw 1567 = .ok (.invokevirtual 186, 3) := by decide +kernel
theorem dlaw_1570 : decode claw 1570 = .ok (.aload_n 2, 1) := by decide +kernel
theorem dlaw_1571 : decode claw 1571 = .ok (.aload_n 0, 1) := by decide +kernel
theorem dlaw_1572 : decode claw 1572 = .ok (.iload_n 3, 1) := by decide +kernel
theorem dlaw_1573 : decode claw 1573 = .ok (.iconst 1, 1) := by decide +kernel
theorem dlaw_1574 : decode claw 1574 = .ok (.iadd, 1) := by decide +kernel
theorem dlaw_1575 : decode claw 1575 = .ok (.iaload, 1) := by decide +kernel
theorem dlaw_1576 : decode claw 1576 = .ok (.aload_n 0, 1) := by decide +kernel
theorem dlaw_1577 : decode claw 1577 = .ok (.iload_n 3, 1) := by decide +kernel
theorem dlaw_1578 : decode claw 1578 = .ok (.iconst 2, 1) := by decide +kernel
theorem dlaw_1579 : decode claw 1579 = .ok (.iadd, 1) := by decide +kernel
theorem dlaw_1580 : decode claw 1580 = .ok (.iaload, 1) := by decide +kernel
theorem dlaw_1581 : decode claw 1581 = .ok (.invokevirtual 189, 3) := by decide +kernel
theorem dlaw_1584 : decode claw 1584 = .ok (.if_icmp .eq 756, 3) := by decide +kernel
theorem dlaw_1587 : decode claw 1587 = .ok (.iconst 0, 1) := by decide +kernel
theorem dlaw_1588 : decode claw 1588 = .ok (.ireturn, 1) := by decide +kernel
theorem dlaw_1589 : decode claw 1589 = .ok (.aload_n 1, 1) := by decide +kernel
theorem dlaw_1590 : decode claw 1590 = .ok (.aload_n 0, 1) := by decide +kernel
theorem dlaw_1591 : decode claw 1591 = .ok (.iload_n 3, 1) := by decide +kernel
theorem dlaw_1592 : decode claw 1592 = .ok (.iconst 1, 1) := by decide +kernel
theorem dlaw_1593 : decode claw 1593 = .ok (.iadd, 1) := by decide +kernel
theorem dlaw_1594 : decode claw 1594 = .ok (.iaload, 1) := by decide +kernel
theorem dlaw_1595 : decode claw 1595 = .ok (.aload_n 0, 1) := by decide +kernel
theorem dlaw_1596 : decode claw 1596 = .ok (.iload_n 3, 1) := by decide +kernel
theorem dlaw_1597 : decode claw 1597 = .ok (.iconst 2, 1) := by decide +kernel
theorem dlaw_1598 : decode claw 1598 = .ok (.iadd, 1) := by decide +kernel
theorem dlaw_1599 : decode claw 1599 = .ok (.iaload, 1) := by decide +kernel
theorem dlaw_1600 : decode claw 1600 = .ok (.invokevirtual 190, 3) := by decide +kernel
theorem dlaw_1603 : decode claw 1603 = .ok (.aload_n 2, 1) := by decide +kernel
theorem dlaw_1604 : decode claw 1604 = .ok (.aload_n 0, 1) := by decide +kernel
theorem dlaw_1605 : decode claw 1605 = .ok (.iload_n 3, 1) := by decide +kernel
theorem dlaw_1606 : decode claw 1606 = .ok (.iconst 1, 1) := by decide +kernel
theorem dlaw_1607 : decode claw 1607 = .ok (.iadd, 1) := by decide +kernel
theorem dlaw_1608 : decode claw 1608 = .ok (.iaload, 1) := by decide +kernel
theorem dlaw_1609 : decode claw 1609 = .ok (.aload_n 0, 1) := by decide +kernel
theorem dlaw_1610 : decode claw 1610 = .ok (.iload_n 3, 1) := by decide +kernel
theorem dlaw_1611 : decode claw 1611 = .ok (.iconst 2, 1) := by decide +kernel
theorem dlaw_1612 : decode claw 1612 = .ok (.iadd, 1) := by decide +kernel
theorem dlaw_1613 : decode claw 1613 = .ok (.iaload, 1) := by decide +kernel
theorem dlaw_1614 : decode claw 1614 = .ok (.invokevirtual 193, 3) := by decide +kernel
theorem dlaw_1617 : decode claw 1617 = .ok (.if_icmp .eq 723, 3) := by decide +kernel
theorem dlaw_1620 : decode claw 1620 = .ok (.iconst 0, 1) := by decide +kernel
theorem dlaw_1621 : decode claw 1621 = .ok (.ireturn, 1) := by decide +kernel
theorem dlaw_1622 : decode claw 1622 = .ok (.aload_n 1, 1) := by decide +kernel
theorem dlaw_1623 : decode claw 1623 = .ok (.aload_n 0, 1) := by decide +kernel
theorem dlaw_1624 : decode claw 1624 = .ok (.iload_n 3, 1) := by decide +kernel
theorem dlaw_1625 : decode claw 1625 = .ok (.iconst 1, 1) := by decide +kernel
theorem dlaw_1626 : decode claw 1626 = .ok (.iadd, 1) := by decide +kernel
theorem dlaw_1627 : decode claw 1627 = .ok (.iaload, 1) := by decide +kernel
theorem dlaw_1628 : decode claw 1628 = .ok (.aload_n 0, 1) := by decide +kernel
theorem dlaw_1629 : decode claw 1629 = .ok (.iload_n 3, 1) := by decide +kernel
theorem dlaw_1630 : decode claw 1630 = .ok (.iconst 2, 1) := by decide +kernel
theorem dlaw_1631 : decode claw 1631 = .ok (.iadd, 1) := by decide +kernel
theorem dlaw_1632 : decode claw 1632 = .ok (.iaload, 1) := by decide +kernel
theorem dlaw_1633 : decode claw 1633 = .ok (.invokevirtual 194, 3) := by decide +kernel
theorem dlaw_1636 : decode claw 1636 = .ok (.aload_n 2, 1) := by decide +kernel
theorem dlaw_1637 : decode claw 1637 = .ok (.aload_n 0, 1) := by decide +kernel
theorem dlaw_1638 : decode claw 1638 = .ok (.iload_n 3, 1) := by decide +kernel
theorem dlaw_1639 : decode claw 1639 = .ok (.iconst 1, 1) := by decide +kernel
theorem dlaw_1640 : decode claw 1640 = .ok (.iadd, 1) := by decide +kernel
theorem dlaw_1641 : decode claw 1641 = .ok (.iaload, 1) := by decide +kernel
theorem dlaw_1642 : decode claw 1642 = .ok (.aload_n 0, 1) := by decide +kernel
theorem dlaw_1643 : decode claw 1643 = .ok (.iload_n 3, 1) := by decide +kernel
theorem dlaw_1644 : decode claw 1644 = .ok (.iconst 2, 1) := by decide +kernel
theorem dlaw_1645 : decode claw 1645 = .ok (.iadd, 1) := by decide +kernel
theorem dlaw_1646 : decode claw 1646 = .ok (.iaload, 1) := by decide +kernel
theorem dlaw_1647 : decode claw 1647 = .ok (.invokevirtual 197, 3) := by decide +kernel
theorem dlaw_1650 : decode claw 1650 = .ok (.if_icmp .eq 690, 3) := by decide +kernel
theorem dlaw_1653 : decode claw 1653 = .ok (.iconst 0, 1) := by decide +kernel
theorem dlaw_1654 : decode claw 1654 = .ok (.ireturn, 1) := by decide +kernel
theorem dlaw_1655 : decode claw 1655 = .ok (.aload_n 1, 1) := by decide +kernel
theorem dlaw_1656 : decode claw 1656 = .ok (.aload_n 0, 1) := by decide +kernel
theorem dlaw_1657 : decode claw 1657 = .ok (.iload_n 3, 1) := by decide +kernel
theorem dlaw_1658 : decode claw 1658 = .ok (.iconst 1, 1) := by decide +kernel
theorem dlaw_1659 : decode claw 1659 = .ok (.iadd, 1) := by decide +kernel
theorem dlaw_1660 : decode claw 1660 = .ok (.iaload, 1) := by decide +kernel
theorem dlaw_1661 : decode claw 1661 = .ok (.invokevirtual 198, 3) := by decide +kernel
theorem dlaw_1664 : decode claw 1664 = .ok (.aload_n 2, 1) := by decide +kernel
theorem dlaw_1665 : decode claw 1665 = .ok (.aload_n 0, 1) := by decide +kernel
theorem dlaw_1666 : decode claw 1666 = .ok (.iload_n 3, 1) := by decide +kernel
theorem dlaw_1667 : decode claw 1667 = .ok (.iconst 1, 1) := by decide +kernel
theorem dlaw_1668 : decode claw 1668 = .ok (.iadd, 1) := by decide +kernel
theorem dlaw_1669 : decode claw 1669 = .ok (.iaload, 1) := by decide +kernel
theorem dlaw_1670 : decode claw 1670 = .ok (.invokevirtual 201, 3) := by decide +kernel
theorem dlaw_1673 : decode claw 1673 = .ok (.if_icmp .eq 667, 3) := by decide +kernel
theorem dlaw_1676 : decode claw 1676 = .ok (.iconst 0, 1) := by decide +kernel
theorem dlaw_1677 : decode claw 1677 = .ok (.ireturn, 1) := by decide +kernel
theorem dlaw_1678 : decode claw 1678 = .ok (.aload_n 1, 1) := by decide +kernel
theorem dlaw_1679 : decode claw 1679 = .ok (.aload_n 0, 1) := by decide +kernel
theorem dlaw_1680 : decode claw 1680 = .ok (.iload_n 3, 1) := by decide +kernel
theorem dlaw_1681 : decode claw 1681 = .ok (.iconst 1, 1) := by decide +kernel
theorem dlaw_1682 : decode claw 1682 = .ok (.iadd, 1) := by decide +kernel
theorem dlaw_1683 : decode claw 1683 = .ok (.iaload, 1) := by decide +kernel
theorem dlaw_1684 : decode claw 1684 = .ok (.aload_n 0, 1) := by decide +kernel
theorem dlaw_1685 : decode claw 1685 = .ok (.iload_n 3, 1) := by decide +kernel
theorem dlaw_1686 : decode claw 1686 = .ok (.iconst 2, 1) := by decide +kernel
theorem dlaw_1687 : decode claw 1687 = .ok (.iadd, 1) := by decide +kernel
theorem dlaw_1688 : decode claw 1688 = .ok (.iaload, 1) := by decide +kernel
theorem dlaw_1689 : decode claw 1689 = .ok (.aload_n 0, 1) := by decide +kernel
theorem dlaw_1690 : decode claw 1690 = .ok (.iload_n 3, 1) := by decide +kernel
theorem dlaw_1691 : decode claw 1691 = .ok (.iconst 3, 1) := by decide +kernel
theorem dlaw_1692 : decode claw 1692 = .ok (.iadd, 1) := by decide +kernel
theorem dlaw_1693 : decode claw 1693 = .ok (.iaload, 1) := by decide +kernel
theorem dlaw_1694 : decode claw 1694 = .ok (.invokevirtual 202, 3) := by decide +kernel
theorem dlaw_1697 : decode claw 1697 = .ok (.aload_n 2, 1) := by decide +kernel
theorem dlaw_1698 : decode claw 1698 = .ok (.aload_n 0, 1) := by decide +kernel
theorem dlaw_1699 : decode claw 1699 = .ok (.iload_n 3, 1) := by decide +kernel
theorem dlaw_1700 : decode claw 1700 = .ok (.iconst 1, 1) := by decide +kernel
theorem dlaw_1701 : decode claw 1701 = .ok (.iadd, 1) := by decide +kernel
theorem dlaw_1702 : decode claw 1702 = .ok (.iaload, 1) := by decide +kernel
theorem dlaw_1703 : decode claw 1703 = .ok (.aload_n 0, 1) := by decide +kernel
theorem dlaw_1704 : decode claw 1704 = .ok (.iload_n 3, 1) := by decide +kernel
theorem dlaw_1705 : decode claw 1705 = .ok (.iconst 2, 1) := by decide +kernel
theorem dlaw_1706 : decode claw 1706 = .ok (.iadd, 1) := by decide +kernel
theorem dlaw_1707 : decode claw 1707 = .ok (.iaload, 1) := by decide +kernel
theorem dlaw_1708 : decode claw 1708 = .ok (.aload_n 0, 1) := by decide +kernel
theorem dlaw_1709 : decode claw 1709 = .ok (.iload_n 3, 1) := by decide +kernel
theorem dlaw_1710 : decode claw 1710 = .ok (.iconst 3, 1) := by decide +kernel
theorem dlaw_1711 : decode claw 1711 = .ok (.iadd, 1) := by decide +kernel
theorem dlaw_1712 : decode claw 1712 = .ok (.iaload, 1) := by decide +kernel
theorem dlaw_1713 : decode claw 1713 = .ok (.invokevirtual 205, 3) := by decide +kernel
theorem dlaw_1716 : decode claw 1716 = .ok (.if_icmp .eq 624, 3) := by decide +kernel
theorem dlaw_1719 : decode claw 1719 = .ok (.iconst 0, 1) := by decide +kernel
theorem dlaw_1720 : decode claw 1720 = .ok (.ireturn, 1) := by decide +kernel
theorem dlaw_1721 : decode claw 1721 = .ok (.aload_n 1, 1) := by decide +kernel
theorem dlaw_1722 : decode claw 1722 = .ok (.aload_n 0, 1) := by decide +kernel
theorem dlaw_1723 : decode claw 1723 = .ok (.iload_n 3, 1) := by decide +kernel
theorem dlaw_1724 : decode claw 1724 = .ok (.iconst 1, 1) := by decide +kernel
theorem dlaw_1725 : decode claw 1725 = .ok (.iadd, 1) := by decide +kernel
theorem dlaw_1726 : decode claw 1726 = .ok (.iaload, 1) := by decide +kernel
theorem dlaw_1727 : decode claw 1727 = .ok (.aload_n 0, 1) := by decide +kernel
theorem dlaw_1728 : decode claw 1728 = .ok (.iload_n 3, 1) := by decide +kernel
theorem dlaw_1729 : decode claw 1729 = .ok (.iconst 2, 1) := by decide +kernel
theorem dlaw_1730 : decode claw 1730 = .ok (.iadd, 1) := by decide +kernel
theorem dlaw_1731 : decode claw 1731 = .ok (.iaload, 1) := by decide +kernel
theorem dlaw_1732 : decode claw 1732 = .ok (.aload_n 0, 1) := by decide +kernel
theorem dlaw_1733 : decode claw 1733 = .ok (.iload_n 3, 1) := by decide +kernel
theorem dlaw_1734 : decode claw 1734 = .ok (.iconst 3, 1) := by decide +kernel
theorem dlaw_1735 : decode claw 1735 = .ok (.iadd, 1) := by decide +kernel
theorem dlaw_1736 : decode claw 1736 = .ok (.iaload, 1) := by decide +kernel
theorem dlaw_1737 : decode claw 1737 = .ok (.aload_n 0, 1) := by decide +kernel
theorem dlaw_1738 : decode claw 1738 = .ok (.iload_n 3, 1) := by decide +kernel
theorem dlaw_1739 : decode claw 1739 = .ok (.iconst 4, 1) := by decide +kernel
theorem dlaw_1740 : decode claw 1740 = .ok (.iadd, 1) := by decide +kernel
theorem dlaw_1741 : decode claw 1741 = .ok (.iaload, 1) := by decide +kernel
theorem dlaw_1742 : decode claw 1742 = .ok (.aload_n 0, 1) := by decide +kernel
theorem dlaw_1743 : decode claw 1743 = .ok (.iload_n 3, 1) := by decide +kernel
theorem dlaw_1744 : decode claw 1744 = .ok (.iconst 5, 1) := by decide +kernel
theorem dlaw_1745 : decode claw 1745 = .ok (.iadd, 1) := by decide +kernel
theorem dlaw_1746 : decode claw 1746 = .ok (.iaload, 1) := by decide +kernel
theorem dlaw_1747 : decode claw 1747 = .ok (.invokevirtual 206, 3) := by decide +kernel
theorem dlaw_1750 : decode claw 1750 = .ok (.aload_n 2, 1) := by decide +kernel
theorem dlaw_1751 : decode claw 1751 = .ok (.aload_n 0, 1) := by decide +kernel
theorem dlaw_1752 : decode claw 1752 = .ok (.iload_n 3, 1) := by decide +kernel
theorem dlaw_1753 : decode claw 1753 = .ok (.iconst 1, 1) := by decide +kernel
theorem dlaw_1754 : decode claw 1754 = .ok (.iadd, 1) := by decide +kernel
theorem dlaw_1755 : decode claw 1755 = .ok (.iaload, 1) := by decide +kernel
theorem dlaw_1756 : decode claw 1756 = .ok (.aload_n 0, 1) := by decide +kernel
theorem dlaw_1757 : decode claw 1757 = .ok (.iload_n 3, 1) := by decide +kernel
theorem dlaw_1758 : decode claw 1758 = .ok (.iconst 2, 1) := by decide +kernel
theorem dlaw_1759 : decode claw 1759 = .ok (.iadd, 1) := by decide +kernel
theorem dlaw_1760 : decode claw 1760 = .ok (.iaload, 1) := by decide +kernel
theorem dlaw_1761 : decode claw 1761 = .ok (.aload_n 0, 1) := by decide +kernel
theorem dlaw_1762 : decode claw 1762 = .ok (.iload_n 3, 1) := by decide +kernel
theorem dlaw_1763 : decode claw 1763 = .ok (.iconst 3, 1) := by decide +kernel
theorem dlaw_1764 : decode claw 1764 = .ok (.iadd, 1) := by decide +kernel
theorem dlaw_1765 : decode claw 1765 = .ok (.iaload, 1) := by decide +kernel
theorem dlaw_1766 : decode claw 1766 = .ok (.aload_n 0, 1) := by decide +kernel
theorem dlaw_1767 : decode claw 1767 = .ok (.iload_n 3, 1) := by decide +kernel
theorem dlaw_1768 : decode claw 1768 = .ok (.iconst 4, 1) := by decide +kernel
theorem dlaw_1769 : decode claw 1769 = .ok (.iadd, 1) := by decide +kernel
theorem dlaw_1770 : decode claw 1770 = .ok (.iaload, 1) := by decide +kernel
theorem dlaw_1771 : decode claw 1771 = .ok (.aload_n 0, 1) := by decide +kernel
theorem dlaw_1772 : decode claw 1772 = .ok (.iload_n 3, 1) := by decide +kernel
theorem dlaw_1773 : decode claw 1773 = .ok (.iconst 5, 1) := by decide +kernel
theorem dlaw_1774 : decode claw 1774 = .ok (.iadd, 1) := by decide +kernel
theorem dlaw_1775 : decode claw 1775 = .ok (.iaload, 1) := by decide +kernel
theorem dlaw_1776 : decode claw 1776 = .ok (.invokevirtual 209, 3) := by decide +kernel
theorem dlaw_1779 : decode claw 1779 = .ok (.if_icmp .eq 561, 3) := by decide +kernel
theorem dlaw_1782 : decode claw 1782 = .ok (.iconst 0, 1) := by decide +kernel
theorem dlaw_1783 : decode claw 1783 = .ok (.ireturn, 1) := by decide +kernel
theorem dlaw_1784 : decode claw 1784 = .ok (.aload_n 1, 1) := by decide +kernel
theorem dlaw_1785 : decode claw 1785 = .ok (.aload_n 0, 1) := by decide +kernel
theorem dlaw_1786 : decode claw 1786 = .ok (.iload_n 3, 1) := by decide +kernel
theorem dlaw_1787 : decode claw 1787 = .ok (.iconst 1, 1) := by decide +kernel
theorem dlaw_1788 : decode claw 1788 = .ok (.iadd, 1) := by decide +kernel
theorem dlaw_1789 : decode claw 1789 = .ok (.iaload, 1) := by decide +kernel
theorem dlaw_1790 : decode claw 1790 = .ok (.aload_n 0, 1) := by decide +kernel
theorem dlaw_1791 : decode claw 1791 = .ok (.iload_n 3, 1) := by decide +kernel
theorem dlaw_1792 : decode claw 1792 = .ok (.iconst 2, 1) := by decide +kernel
theorem dlaw_1793 : decode claw 1793 = .ok (.iadd, 1) := by decide +kernel
theorem dlaw_1794 : decode claw 1794 = .ok (.iaload, 1) := by decide +kernel
theorem dlaw_1795 : decode claw 1795 = .ok (.aload_n 0, 1) := by decide +kernel
theorem dlaw_1796 : decode claw 1796 = .ok (.iload_n 3, 1) := by decide +kernel
theorem dlaw_1797 : decode claw 1797 = .ok (.iconst 3, 1) := by decide +kernel
theorem dlaw_1798 : decode claw 1798 = .ok (.iadd, 1) := by decide +kernel
theorem dlaw_1799 : decode claw 1799 = .ok (.iaload, 1) := by decide +kernel
theorem dlaw_1800 : decode claw 1800 = .ok (.invokevirtual 210, 3) := by decide +kernel
theorem dlaw_1803 : decode claw 1803 = .ok (.aload_n 2, 1) := by decide +kernel
theorem dlaw_1804 : decode claw 1804 = .ok (.aload_n 0, 1) := by decide +kernel
theorem dlaw_1805 : decode claw 1805 = .ok (.iload_n 3, 1) := by decide +kernel
theorem dlaw_1806 : decode claw 1806 = .ok (.iconst 1, 1) := by decide +kernel
theorem dlaw_1807 : decode claw 1807 = .ok (.iadd, 1) := by decide +kernel
theorem dlaw_1808 : decode claw 1808 = .ok (.iaload, 1) := by decide +kernel
theorem dlaw_1809 : decode claw 1809 = .ok (.aload_n 0, 1) := by decide +kernel
theorem dlaw_1810 : decode claw 1810 = .ok (.iload_n 3, 1) := by decide +kernel
theorem dlaw_1811 : decode claw 1811 = .ok (.iconst 2, 1) := by decide +kernel
theorem dlaw_1812 : decode claw 1812 = .ok (.iadd, 1) := by decide +kernel
theorem dlaw_1813 : decode claw 1813 = .ok (.iaload, 1) := by decide +kernel
theorem dlaw_1814 : decode claw 1814 = .ok (.aload_n 0, 1) := by decide +kernel
theorem dlaw_1815 : decode claw 1815 = .ok (.iload_n 3, 1) := by decide +kernel
theorem dlaw_1816 : decode claw 1816 = .ok (.iconst 3, 1) := by decide +kernel
theorem dlaw_1817 : decode claw 1817 = .ok (.iadd, 1) := by decide +kernel
theorem dlaw_1818 : decode claw 1818 = .ok (.iaload, 1) := by decide +kernel
theorem dlaw_1819 : decode claw 1819 = .ok (.invokevirtual 213, 3) := by decide +kernel
theorem dlaw_1822 : decode claw 1822 = .ok (.if_icmp .eq 518, 3) := by decide +kernel
theorem dlaw_1825 : decode claw 1825 = .ok (.iconst 0, 1) := by decide +kernel
theorem dlaw_1826 : decode claw 1826 = .ok (.ireturn, 1) := by decide +kernel
theorem dlaw_1827 : decode claw 1827 = .ok (.aload_n 1, 1) := by decide +kernel
theorem dlaw_1828 : decode claw 1828 = .ok (.aload_n 0, 1) := by decide +kernel
theorem dlaw_1829 : decode claw 1829 = .ok (.iload_n 3, 1) := by decide +kernel
theorem dlaw_1830 : decode claw 1830 = .ok (.iconst 1, 1) := by decide +kernel
theorem dlaw_1831 : decode claw 1831 = .ok (.iadd, 1) := by decide +kernel
theorem dlaw_1832 : decode claw 1832 = .ok (.iaload, 1) := by decide +kernel
theorem dlaw_1833 : decode claw 1833 = .ok (.aload_n 0, 1) := by decide +kernel
theorem dlaw_1834 : decode claw 1834 = .ok (.iload_n 3, 1) := by decide +kernel
theorem dlaw_1835 : decode claw 1835 = .ok (.iconst 2, 1) := by decide +kernel
theorem dlaw_1836 : decode claw 1836 = .ok (.iadd, 1) := by decide +kernel
theorem dlaw_1837 : decode claw 1837 = .ok (.iaload, 1) := by decide +kernel
theorem dlaw_1838 : decode claw 1838 = .ok (.invokevirtual 214, 3) := by decide +kernel
theorem dlaw_1841 : decode claw 1841 = .ok (.aload_n 2, 1) := by decide +kernel
theorem dlaw_1842 : decode claw 1842 = .ok (.aload_n 0, 1) := by decide +kernel
theorem dlaw_1843 : decode claw 1843 = .ok (.iload_n 3, 1) := by decide +kernel
theorem dlaw_1844 : decode claw 1844 = .ok (.iconst 1, 1) := by decide +kernel
theorem dlaw_1845 : decode claw 1845 = .ok (.iadd, 1) := by decide +kernel
theorem dlaw_1846 : decode claw 1846 = .ok (.iaload, 1) := by decide +kernel
theorem dlaw_1847 : decode claw 1847 = .ok (.aload_n 0, 1) := by decide +kernel
theorem dlaw_1848 : decode claw 1848 = .ok (.iload_n 3, 1) := by decide +kernel
theorem dlaw_1849 : decode claw 1849 = .ok (.iconst 2, 1) := by decide +kernel
theorem dlaw_1850 : decode claw 1850 = .ok (.iadd, 1) := by decide +kernel
theorem dlaw_1851 : decode claw 1851 = .ok (.iaload, 1) := by decide +kernel
theorem dlaw_1852 : decode claw 1852 = .ok (.invokevirtual 218, 3) := by decide +kernel
theorem dlaw_1855 : decode claw 1855 = .ok (.lcmp, 1) := by decide +kernel
theorem dlaw_1856 : decode claw 1856 = .ok (.ifCond .eq 484, 3) := by decide +kernel
theorem dlaw_1859 : decode claw 1859 = .ok (.iconst 0, 1) := by decide +kernel
theorem dlaw_1860 : decode claw 1860 = .ok (.ireturn, 1) := by decide +kernel
theorem dlaw_1861 : decode claw 1861 = .ok (.aload_n 1, 1) := by decide +kernel
theorem dlaw_1862 : decode claw 1862 = .ok (.aload_n 0, 1) := by decide +kernel
theorem dlaw_1863 : decode claw 1863 = .ok (.iload_n 3, 1) := by decide +kernel
theorem dlaw_1864 : decode claw 1864 = .ok (.iconst 1, 1) := by decide +kernel
theorem dlaw_1865 : decode claw 1865 = .ok (.iadd, 1) := by decide +kernel
theorem dlaw_1866 : decode claw 1866 = .ok (.iaload, 1) := by decide +kernel
theorem dlaw_1867 : decode claw 1867 = .ok (.aload_n 0, 1) := by decide +kernel
theorem dlaw_1868 : decode claw 1868 = .ok (.iload_n 3, 1) := by decide +kernel
theorem dlaw_1869 : decode claw 1869 = .ok (.iconst 2, 1) := by decide +kernel
theorem dlaw_1870 : decode claw 1870 = .ok (.iadd, 1) := by decide +kernel
theorem dlaw_1871 : decode claw 1871 = .ok (.iaload, 1) := by decide +kernel
theorem dlaw_1872 : decode claw 1872 = .ok (.aload_n 0, 1) := by decide +kernel
theorem dlaw_1873 : decode claw 1873 = .ok (.iload_n 3, 1) := by decide +kernel
theorem dlaw_1874 : decode claw 1874 = .ok (.iconst 3, 1) := by decide +kernel
theorem dlaw_1875 : decode claw 1875 = .ok (.iadd, 1) := by decide +kernel
theorem dlaw_1876 : decode claw 1876 = .ok (.iaload, 1) := by decide +kernel
theorem dlaw_1877 : decode claw 1877 = .ok (.aload_n 0, 1) := by decide +kernel
theorem dlaw_1878 : decode claw 1878 = .ok (.iload_n 3, 1) := by decide +kernel
theorem dlaw_1879 : decode claw 1879 = .ok (.iconst 4, 1) := by decide +kernel
theorem dlaw_1880 : decode claw 1880 = .ok (.iadd, 1) := by decide +kernel
theorem dlaw_1881 : decode claw 1881 = .ok (.iaload, 1) := by decide +kernel
theorem dlaw_1882 : decode claw 1882 = .ok (.invokevirtual 219, 3) := by decide +kernel
theorem dlaw_1885 : decode claw 1885 = .ok (.aload_n 2, 1) := by decide +kernel
theorem dlaw_1886 : decode claw 1886 = .ok (.aload_n 0, 1) := by decide +kernel
theorem dlaw_1887 : decode claw 1887 = .ok (.iload_n 3, 1) := by decide +kernel
theorem dlaw_1888 : decode claw 1888 = .ok (.iconst 1, 1) := by decide +kernel
theorem dlaw_1889 : decode claw 1889 = .ok (.iadd, 1) := by decide +kernel
theorem dlaw_1890 : decode claw 1890 = .ok (.iaload, 1) := by decide +kernel
theorem dlaw_1891 : decode claw 1891 = .ok (.aload_n 0, 1) := by decide +kernel
theorem dlaw_1892 : decode claw 1892 = .ok (.iload_n 3, 1) := by decide +kernel
theorem dlaw_1893 : decode claw 1893 = .ok (.iconst 2, 1) := by decide +kernel
theorem dlaw_1894 : decode claw 1894 = .ok (.iadd, 1) := by decide +kernel
theorem dlaw_1895 : decode claw 1895 = .ok (.iaload, 1) := by decide +kernel
theorem dlaw_1896 : decode claw 1896 = .ok (.aload_n 0, 1) := by decide +kernel
theorem dlaw_1897 : decode claw 1897 = .ok (.iload_n 3, 1) := by decide +kernel
theorem dlaw_1898 : decode claw 1898 = .ok (.iconst 3, 1) := by decide +kernel
theorem dlaw_1899 : decode claw 1899 = .ok (.iadd, 1) := by decide +kernel
theorem dlaw_1900 : decode claw 1900 = .ok (.iaload, 1) := by decide +kernel
theorem dlaw_1901 : decode claw 1901 = .ok (.aload_n 0, 1) := by decide +kernel
theorem dlaw_1902 : decode claw 1902 = .ok (.iload_n 3, 1) := by decide +kernel
theorem dlaw_1903 : decode claw 1903 = .ok (.iconst 4, 1) := by decide +kernel
theorem dlaw_1904 : decode claw 1904 = .ok (.iadd, 1) := by decide +kernel
theorem dlaw_1905 : decode claw 1905 = .ok (.iaload, 1) := by decide +kernel
theorem dlaw_1906 : decode claw 1906 = .ok (.invokevirtual 223, 3) := by decide +kernel
theorem dlaw_1909 : decode claw 1909 = .ok (.if_icmp .eq 431, 3) := by decide +kernel
theorem dlaw_1912 : decode claw 1912 = .ok (.iconst 0, 1) := by decide +kernel
theorem dlaw_1913 : decode claw 1913 = .ok (.ireturn, 1) := by decide +kernel
theorem dlaw_1914 : decode claw 1914 = .ok (.aload_n 1, 1) := by decide +kernel
theorem dlaw_1915 : decode claw 1915 = .ok (.aload_n 0, 1) := by decide +kernel
theorem dlaw_1916 : decode claw 1916 = .ok (.iload_n 3, 1) := by decide +kernel
theorem dlaw_1917 : decode claw 1917 = .ok (.iconst 1, 1) := by decide +kernel
theorem dlaw_1918 : decode claw 1918 = .ok (.iadd, 1) := by decide +kernel
theorem dlaw_1919 : decode claw 1919 = .ok (.iaload, 1) := by decide +kernel
theorem dlaw_1920 : decode claw 1920 = .ok (.aload_n 0, 1) := by decide +kernel
theorem dlaw_1921 : decode claw 1921 = .ok (.iload_n 3, 1) := by decide +kernel
theorem dlaw_1922 : decode claw 1922 = .ok (.iconst 2, 1) := by decide +kernel
theorem dlaw_1923 : decode claw 1923 = .ok (.iadd, 1) := by decide +kernel
theorem dlaw_1924 : decode claw 1924 = .ok (.iaload, 1) := by decide +kernel
theorem dlaw_1925 : decode claw 1925 = .ok (.invokevirtual 224, 3) := by decide +kernel
theorem dlaw_1928 : decode claw 1928 = .ok (.aload_n 2, 1) := by decide +kernel
theorem dlaw_1929 : decode claw 1929 = .ok (.aload_n 0, 1) := by decide +kernel
theorem dlaw_1930 : decode claw 1930 = .ok (.iload_n 3, 1) := by decide +kernel
theorem dlaw_1931 : decode claw 1931 = .ok (.iconst 1, 1) := by decide +kernel
theorem dlaw_1932 : decode claw 1932 = .ok (.iadd, 1) := by decide +kernel
theorem dlaw_1933 : decode claw 1933 = .ok (.iaload, 1) := by decide +kernel
theorem dlaw_1934 : decode claw 1934 = .ok (.aload_n 0, 1) := by decide +kernel
theorem dlaw_1935 : decode claw 1935 = .ok (.iload_n 3, 1) := by decide +kernel
theorem dlaw_1936 : decode claw 1936 = .ok (.iconst 2, 1) := by decide +kernel
theorem dlaw_1937 : decode claw 1937 = .ok (.iadd, 1) := by decide +kernel
theorem dlaw_1938 : decode claw 1938 = .ok (.iaload, 1) := by decide +kernel
theorem dlaw_1939 : decode claw 1939 = .ok (.invokevirtual 227, 3) := by decide +kernel
theorem dlaw_1942 : decode claw 1942 = .ok (.if_icmp .eq 398, 3) := by decide +kernel
theorem dlaw_1945 : decode claw 1945 = .ok (.iconst 0, 1) := by decide +kernel
theorem dlaw_1946 : decode claw 1946 = .ok (.ireturn, 1) := by decide +kernel
theorem dlaw_1947 : decode claw 1947 = .ok (.aload_n 1, 1) := by decide +kernel
theorem dlaw_1948 : decode claw 1948 = .ok (.invokevirtual 228, 3) := by decide +kernel
theorem dlaw_1951 : decode claw 1951 = .ok (.aload_n 2, 1) := by decide +kernel
theorem dlaw_1952 : decode claw 1952 = .ok (.invokevirtual 231, 3) := by decide +kernel
theorem dlaw_1955 : decode claw 1955 = .ok (.if_icmp .eq 385, 3) := by decide +kernel
theorem dlaw_1958 : decode claw 1958 = .ok (.iconst 0, 1) := by decide +kernel
theorem dlaw_1959 : decode claw 1959 = .ok (.ireturn, 1) := by decide +kernel
theorem dlaw_1960 : decode claw 1960 = .ok (.aload_n 1, 1) := by decide +kernel
theorem dlaw_1961 : decode claw 1961 = .ok (.invokevirtual 232, 3) := by decide +kernel
theorem dlaw_1964 : decode claw 1964 = .ok (.aload_n 2, 1) := by decide +kernel
theorem dlaw_1965 : decode claw 1965 = .ok (.invokevirtual 235, 3) := by decide +kernel
theorem dlaw_1968 : decode claw 1968 = .ok (.if_icmp .eq 372, 3) := by decide +kernel
theorem dlaw_1971 : decode claw 1971 = .ok (.iconst 0, 1) := by decide +kernel
theorem dlaw_1972 : decode claw 1972 = .ok (.ireturn, 1) := by decide +kernel
theorem dlaw_1973 : decode claw 1973 = .ok (.aload_n 1, 1) := by decide +kernel
theorem dlaw_1974 : decode claw 1974 = .ok (.aload_n 0, 1) := by decide +kernel
theorem dlaw_1975 : decode claw 1975 = .ok (.iload_n 3, 1) := by decide +kernel
theorem dlaw_1976 : decode claw 1976 = .ok (.iconst 1, 1) := by decide +kernel
theorem dlaw_1977 : decode claw 1977 = .ok (.iadd, 1) := by decide +kernel
theorem dlaw_1978 : decode claw 1978 = .ok (.iaload, 1) := by decide +kernel
theorem dlaw_1979 : decode claw 1979 = .ok (.aload_n 0, 1) := by decide +kernel
theorem dlaw_1980 : decode claw 1980 = .ok (.iload_n 3, 1) := by decide +kernel
theorem dlaw_1981 : decode claw 1981 = .ok (.iconst 2, 1) := by decide +kernel
theorem dlaw_1982 : decode claw 1982 = .ok (.iadd, 1) := by decide +kernel
theorem dlaw_1983 : decode claw 1983 = .ok (.iaload, 1) := by decide +kernel
theorem dlaw_1984 : decode claw 1984 = .ok (.invokevirtual 236, 3) := by decide +kernel
theorem dlaw_1987 : decode claw 1987 = .ok (.aload_n 2, 1) := by decide +kernel
theorem dlaw_1988 : decode claw 1988 = .ok (.aload_n 0, 1) := by decide +kernel
theorem dlaw_1989 : decode claw 1989 = .ok (.iload_n 3, 1) := by decide +kernel
theorem dlaw_1990 : decode claw 1990 = .ok (.iconst 1, 1) := by decide +kernel
theorem dlaw_1991 : decode claw 1991 = .ok (.iadd, 1) := by decide +kernel
theorem dlaw_1992 : decode claw 1992 = .ok (.iaload, 1) := by decide +kernel
theorem dlaw_1993 : decode claw 1993 = .ok (.aload_n 0, 1) := by decide +kernel
theorem dlaw_1994 : decode claw 1994 = .ok (.iload_n 3, 1) := by decide +kernel
theorem dlaw_1995 : decode claw 1995 = .ok (.iconst 2, 1) := by decide +kernel
theorem dlaw_1996 : decode claw 1996 = .ok (.iadd, 1) := by decide +kernel
theorem dlaw_1997 : decode claw 1997 = .ok (.iaload, 1) := by decide +kernel
theorem dlaw_1998 : decode claw 1998 = .ok (.invokevirtual 239, 3) := by decide +kernel
theorem dlaw_2001 : decode claw 2001 = .ok (.if_icmp .eq 339, 3) := by decide +kernel
theorem dlaw_2004 : decode claw 2004 = .ok (.iconst 0, 1) := by decide +kernel
theorem dlaw_2005 : decode claw 2005 = .ok (.ireturn, 1) := by decide +kernel
theorem dlaw_2006 : decode claw 2006 = .ok (.aload_n 1, 1) := by decide +kernel
theorem dlaw_2007 : decode claw 2007 = .ok (.aload_n 0, 1) := by decide +kernel
theorem dlaw_2008 : decode claw 2008 = .ok (.iload_n 3, 1) := by decide +kernel
theorem dlaw_2009 : decode claw 2009 = .ok (.iconst 1, 1) := by decide +kernel
theorem dlaw_2010 : decode claw 2010 = .ok (.iadd, 1) := by decide +kernel
theorem dlaw_2011 : decode claw 2011 = .ok (.iaload, 1) := by decide +kernel
theorem dlaw_2012 : decode claw 2012 = .ok (.aload_n 0, 1) := by decide +kernel
theorem dlaw_2013 : decode claw 2013 = .ok (.iload_n 3, 1) := by decide +kernel
theorem dlaw_2014 : decode claw 2014 = .ok (.iconst 2, 1) := by decide +kernel
theorem dlaw_2015 : decode claw 2015 = .ok (.iadd, 1) := by decide +kernel
theorem dlaw_2016 : decode claw 2016 = .ok (.iaload, 1) := by decide +kernel
theorem dlaw_2017 : decode claw 2017 = .ok (.aload_n 0, 1) := by decide +kernel
theorem dlaw_2018 : decode claw 2018 = .ok (.iload_n 3, 1) := by decide +kernel
theorem dlaw_2019 : decode claw 2019 = .ok (.iconst 3, 1) := by decide +kernel
theorem dlaw_2020 : decode claw 2020 = .ok (.iadd, 1) := by decide +kernel
theorem dlaw_2021 : decode claw 2021 = .ok (.iaload, 1) := by decide +kernel
theorem dlaw_2022 : decode claw 2022 = .ok (.aload_n 0, 1) := by decide +kernel
theorem dlaw_2023 : decode claw 2023 = .ok (.iload_n 3, 1) := by decide +kernel
theorem dlaw_2024 : decode claw 2024 = .ok (.iconst 4, 1) := by decide +kernel
theorem dlaw_2025 : decode claw 2025 = .ok (.iadd, 1) := by decide +kernel
theorem dlaw_2026 : decode claw 2026 = .ok (.iaload, 1) := by decide +kernel
theorem dlaw_2027 : decode claw 2027 = .ok (.invokevirtual 240, 3) := by decide +kernel
theorem dlaw_2030 : decode claw 2030 = .ok (.aload_n 2, 1) := by decide +kernel
theorem dlaw_2031 : decode claw 2031 = .ok (.aload_n 0, 1) := by decide +kernel
theorem dlaw_2032 : decode claw 2032 = .ok (.iload_n 3, 1) := by decide +kernel
theorem dlaw_2033 : decode claw 2033 = .ok (.iconst 1, 1) := by decide +kernel
theorem dlaw_2034 : decode claw 2034 = .ok (.iadd, 1) := by decide +kernel
theorem dlaw_2035 : decode claw 2035 = .ok (.iaload, 1) := by decide +kernel
theorem dlaw_2036 : decode claw 2036 = .ok (.aload_n 0, 1) := by decide +kernel
theorem dlaw_2037 : decode claw 2037 = .ok (.iload_n 3, 1) := by decide +kernel
theorem dlaw_2038 : decode claw 2038 = .ok (.iconst 2, 1) := by decide +kernel
theorem dlaw_2039 : decode claw 2039 = .ok (.iadd, 1) := by decide +kernel
theorem dlaw_2040 : decode claw 2040 = .ok (.iaload, 1) := by decide +kernel
theorem dlaw_2041 : decode claw 2041 = .ok (.aload_n 0, 1) := by decide +kernel
theorem dlaw_2042 : decode claw 2042 = .ok (.iload_n 3, 1) := by decide +kernel
theorem dlaw_2043 : decode claw 2043 = .ok (.iconst 3, 1) := by decide +kernel
theorem dlaw_2044 : decode claw 2044 = .ok (.iadd, 1) := by decide +kernel
theorem dlaw_2045 : decode claw 2045 = .ok (.iaload, 1) := by decide +kernel
theorem dlaw_2046 : decode claw 2046 = .ok (.aload_n 0, 1) := by decide +kernel
theorem dlaw_2047 : decode claw 2047 = .ok (.iload_n 3, 1) := by decide +kernel
theorem dlaw_2048 : decode claw 2048 = .ok (.iconst 4, 1) := by decide +kernel
theorem dlaw_2049 : decode claw 2049 = .ok (.iadd, 1) := by decide +kernel
theorem dlaw_2050 : decode claw 2050 = .ok (.iaload, 1) := by decide +kernel
theorem dlaw_2051 : decode claw 2051 = .ok (.invokevirtual 243, 3) := by decide +kernel
theorem dlaw_2054 : decode claw 2054 = .ok (.if_icmp .eq 286, 3) := by decide +kernel
theorem dlaw_2057 : decode claw 2057 = .ok (.iconst 0, 1) := by decide +kernel
theorem dlaw_2058 : decode claw 2058 = .ok (.ireturn, 1) := by decide +kernel
theorem dlaw_2059 : decode claw 2059 = .ok (.aload_n 1, 1) := by decide +kernel
theorem dlaw_2060 : decode claw 2060 = .ok (.aload_n 0, 1) := by decide +kernel
theorem dlaw_2061 : decode claw 2061 = .ok (.iload_n 3, 1) := by decide +kernel
theorem dlaw_2062 : decode claw 2062 = .ok (.iconst 1, 1) := by decide +kernel
theorem dlaw_2063 : decode claw 2063 = .ok (.iadd, 1) := by decide +kernel
theorem dlaw_2064 : decode claw 2064 = .ok (.iaload, 1) := by decide +kernel
theorem dlaw_2065 : decode claw 2065 = .ok (.aload_n 0, 1) := by decide +kernel
theorem dlaw_2066 : decode claw 2066 = .ok (.iload_n 3, 1) := by decide +kernel
theorem dlaw_2067 : decode claw 2067 = .ok (.iconst 2, 1) := by decide +kernel
theorem dlaw_2068 : decode claw 2068 = .ok (.iadd, 1) := by decide +kernel
theorem dlaw_2069 : decode claw 2069 = .ok (.iaload, 1) := by decide +kernel
theorem dlaw_2070 : decode claw 2070 = .ok (.invokevirtual 244, 3) := by decide +kernel
theorem dlaw_2073 : decode claw 2073 = .ok (.aload_n 2, 1) := by decide +kernel
theorem dlaw_2074 : decode claw 2074 = .ok (.aload_n 0, 1) := by decide +kernel
theorem dlaw_2075 : decode claw 2075 = .ok (.iload_n 3, 1) := by decide +kernel
theorem dlaw_2076 : decode claw 2076 = .ok (.iconst 1, 1) := by decide +kernel
theorem dlaw_2077 : decode claw 2077 = .ok (.iadd, 1) := by decide +kernel
theorem dlaw_2078 : decode claw 2078 = .ok (.iaload, 1) := by decide +kernel
theorem dlaw_2079 : decode claw 2079 = .ok (.aload_n 0, 1) := by decide +kernel
theorem dlaw_2080 : decode claw 2080 = .ok (.iload_n 3, 1) := by decide +kernel
theorem dlaw_2081 : decode claw 2081 = .ok (.iconst 2, 1) := by decide +kernel
theorem dlaw_2082 : decode claw 2082 = .ok (.iadd, 1) := by decide +kernel
theorem dlaw_2083 : decode claw 2083 = .ok (.iaload, 1) := by decide +kernel
theorem dlaw_2084 : decode claw 2084 = .ok (.invokevirtual 247, 3) := by decide +kernel
theorem dlaw_2087 : decode claw 2087 = .ok (.if_icmp .eq 253, 3) := by decide +kernel
theorem dlaw_2090 : decode claw 2090 = .ok (.iconst 0, 1) := by decide +kernel
theorem dlaw_2091 : decode claw 2091 = .ok (.ireturn, 1) := by decide +kernel
theorem dlaw_2092 : decode claw 2092 = .ok (.aload_n 1, 1) := by decide +kernel
theorem dlaw_2093 : decode claw 2093 = .ok (.aload_n 0, 1) := by decide +kernel
theorem dlaw_2094 : decode claw 2094 = .ok (.iload_n 3, 1) := by decide +kernel
theorem dlaw_2095 : decode claw 2095 = .ok (.iconst 1, 1) := by decide +kernel
theorem dlaw_2096 : decode claw 2096 = .ok (.iadd, 1) := by decide +kernel
theorem dlaw_2097 : decode claw 2097 = .ok (.iaload, 1) := by decide +kernel
theorem dlaw_2098 : decode claw 2098 = .ok (.invokevirtual 248, 3) := by decide +kernel
theorem dlaw_2101 : decode claw 2101 = .ok (.aload_n 2, 1) := by decide +kernel
theorem dlaw_2102 : decode claw 2102 = .ok (.aload_n 0, 1) := by decide +kernel
theorem dlaw_2103 : decode claw 2103 = .ok (.iload_n 3, 1) := by decide +kernel
theorem dlaw_2104 : decode claw 2104 = .ok (.iconst 1, 1) := by decide +kernel
theorem dlaw_2105 : decode claw 2105 = .ok (.iadd, 1) := by decide +kernel
theorem dlaw_2106 : decode claw 2106 = .ok (.iaload, 1) := by decide +kernel
theorem dlaw_2107 : decode claw 2107 = .ok (.invokevirtual 251, 3) := by decide +kernel
theorem dlaw_2110 : decode claw 2110 = .ok (.if_icmp .eq 230, 3) := by decide +kernel
theorem dlaw_2113 : decode claw 2113 = .ok (.iconst 0, 1) := by decide +kernel
theorem dlaw_2114 : decode claw 2114 = .ok (.ireturn, 1) := by decide +kernel
theorem dlaw_2115 : decode claw 2115 = .ok (.aload_n 1, 1) := by decide +kernel
theorem dlaw_2116 : decode claw 2116 = .ok (.aload_n 0, 1) := by decide +kernel
theorem dlaw_2117 : decode claw 2117 = .ok (.iload_n 3, 1) := by decide +kernel
theorem dlaw_2118 : decode claw 2118 = .ok (.iconst 1, 1) := by decide +kernel
theorem dlaw_2119 : decode claw 2119 = .ok (.iadd, 1) := by decide +kernel
theorem dlaw_2120 : decode claw 2120 = .ok (.iaload, 1) := by decide +kernel
theorem dlaw_2121 : decode claw 2121 = .ok (.invokevirtual 252, 3) := by decide +kernel
theorem dlaw_2124 : decode claw 2124 = .ok (.aload_n 2, 1) := by decide +kernel
theorem dlaw_2125 : decode claw 2125 = .ok (.aload_n 0, 1) := by decide +kernel
theorem dlaw_2126 : decode claw 2126 = .ok (.iload_n 3, 1) := by decide +kernel
theorem dlaw_2127 : decode claw 2127 = .ok (.iconst 1, 1) := by decide +kernel
theorem dlaw_2128 : decode claw 2128 = .ok (.iadd, 1) := by decide +kernel
theorem dlaw_2129 : decode claw 2129 = .ok (.iaload, 1) := by decide +kernel
theorem dlaw_2130 : decode claw 2130 = .ok (.invokevirtual 255, 3) := by decide +kernel
theorem dlaw_2133 : decode claw 2133 = .ok (.if_icmp .eq 207, 3) := by decide +kernel
theorem dlaw_2136 : decode claw 2136 = .ok (.iconst 0, 1) := by decide +kernel
theorem dlaw_2137 : decode claw 2137 = .ok (.ireturn, 1) := by decide +kernel
theorem dlaw_2138 : decode claw 2138 = .ok (.aload_n 1, 1) := by decide +kernel
theorem dlaw_2139 : decode claw 2139 = .ok (.aload_n 0, 1) := by decide +kernel
theorem dlaw_2140 : decode claw 2140 = .ok (.iload_n 3, 1) := by decide +kernel
theorem dlaw_2141 : decode claw 2141 = .ok (.iconst 1, 1) := by decide +kernel
theorem dlaw_2142 : decode claw 2142 = .ok (.iadd, 1) := by decide +kernel
theorem dlaw_2143 : decode claw 2143 = .ok (.iaload, 1) := by decide +kernel
theorem dlaw_2144 : decode claw 2144 = .ok (.invokevirtual 256, 3) := by decide +kernel
theorem dlaw_2147 : decode claw 2147 = .ok (.aload_n 2, 1) := by decide +kernel
theorem dlaw_2148 : decode claw 2148 = .ok (.aload_n 0, 1) := by decide +kernel
theorem dlaw_2149 : decode claw 2149 = .ok (.iload_n 3, 1) := by decide +kernel
theorem dlaw_2150 : decode claw 2150 = .ok (.iconst 1, 1) := by decide +kernel
theorem dlaw_2151 : decode claw 2151 = .ok (.iadd, 1) := by decide +kernel
theorem dlaw_2152 : decode claw 2152 = .ok (.iaload, 1) := by decide +kernel
theorem dlaw_2153 : decode claw 2153 = .ok (.invokevirtual 259, 3) := by decide +kernel
theorem dlaw_2156 : decode claw 2156 = .ok (.if_icmp .eq 184, 3) := by decide +kernel
theorem dlaw_2159 : decode claw 2159 = .ok (.iconst 0, 1) := by decide +kernel
theorem dlaw_2160 : decode claw 2160 = .ok (.ireturn, 1) := by decide +kernel
theorem dlaw_2161 : decode claw 2161 = .ok (.aload_n 1, 1) := by decide +kernel
theorem dlaw_2162 : decode claw 2162 = .ok (.aload_n 0, 1) := by decide +kernel
theorem dlaw_2163 : decode claw 2163 = .ok (.iload_n 3, 1) := by decide +kernel
theorem dlaw_2164 : decode claw 2164 = .ok (.iconst 1, 1) := by decide +kernel
theorem dlaw_2165 : decode claw 2165 = .ok (.iadd, 1) := by decide +kernel
theorem dlaw_2166 : decode claw 2166 = .ok (.iaload, 1) := by decide +kernel
theorem dlaw_2167 : decode claw 2167 = .ok (.aload_n 0, 1) := by decide +kernel
theorem dlaw_2168 : decode claw 2168 = .ok (.iload_n 3, 1) := by decide +kernel
theorem dlaw_2169 : decode claw 2169 = .ok (.iconst 2, 1) := by decide +kernel
theorem dlaw_2170 : decode claw 2170 = .ok (.iadd, 1) := by decide +kernel
theorem dlaw_2171 : decode claw 2171 = .ok (.iaload, 1) := by decide +kernel
theorem dlaw_2172 : decode claw 2172 = .ok (.aload_n 0, 1) := by decide +kernel
theorem dlaw_2173 : decode claw 2173 = .ok (.iload_n 3, 1) := by decide +kernel
theorem dlaw_2174 : decode claw 2174 = .ok (.iconst 3, 1) := by decide +kernel
theorem dlaw_2175 : decode claw 2175 = .ok (.iadd, 1) := by decide +kernel
theorem dlaw_2176 : decode claw 2176 = .ok (.iaload, 1) := by decide +kernel
theorem dlaw_2177 : decode claw 2177 = .ok (.invokevirtual 260, 3) := by decide +kernel
theorem dlaw_2180 : decode claw 2180 = .ok (.aload_n 2, 1) := by decide +kernel
theorem dlaw_2181 : decode claw 2181 = .ok (.aload_n 0, 1) := by decide +kernel
theorem dlaw_2182 : decode claw 2182 = .ok (.iload_n 3, 1) := by decide +kernel
theorem dlaw_2183 : decode claw 2183 = .ok (.iconst 1, 1) := by decide +kernel
theorem dlaw_2184 : decode claw 2184 = .ok (.iadd, 1) := by decide +kernel
theorem dlaw_2185 : decode claw 2185 = .ok (.iaload, 1) := by decide +kernel
theorem dlaw_2186 : decode claw 2186 = .ok (.aload_n 0, 1) := by decide +kernel
theorem dlaw_2187 : decode claw 2187 = .ok (.iload_n 3, 1) := by decide +kernel
theorem dlaw_2188 : decode claw 2188 = .ok (.iconst 2, 1) := by decide +kernel
theorem dlaw_2189 : decode claw 2189 = .ok (.iadd, 1) := by decide +kernel
theorem dlaw_2190 : decode claw 2190 = .ok (.iaload, 1) := by decide +kernel
theorem dlaw_2191 : decode claw 2191 = .ok (.aload_n 0, 1) := by decide +kernel
theorem dlaw_2192 : decode claw 2192 = .ok (.iload_n 3, 1) := by decide +kernel
theorem dlaw_2193 : decode claw 2193 = .ok (.iconst 3, 1) := by decide +kernel
theorem dlaw_2194 : decode claw 2194 = .ok (.iadd, 1) := by decide +kernel
theorem dlaw_2195 : decode claw 2195 = .ok (.iaload, 1) := by decide +kernel
theorem dlaw_2196 : decode claw 2196 = .ok (.invokevirtual 263, 3) := by decide +kernel
theorem dlaw_2199 : decode claw 2199 = .ok (.if_icmp .eq 141, 3) := by decide +kernel
theorem dlaw_2202 : decode claw 2202 = .ok (.iconst 0, 1) := by decide +kernel
theorem dlaw_2203 : decode claw 2203 = .ok (.ireturn, 1) := by decide +kernel
theorem dlaw_2204 : decode claw 2204 = .ok (.aload_n 1, 1) := by decide +kernel
theorem dlaw_2205 : decode claw 2205 = .ok (.aload_n 0, 1) := by decide +kernel
theorem dlaw_2206 : decode claw 2206 = .ok (.iload_n 3, 1) := by decide +kernel
theorem dlaw_2207 : decode claw 2207 = .ok (.iconst 1, 1) := by decide +kernel
theorem dlaw_2208 : decode claw 2208 = .ok (.iadd, 1) := by decide +kernel
theorem dlaw_2209 : decode claw 2209 = .ok (.iaload, 1) := by decide +kernel
theorem dlaw_2210 : decode claw 2210 = .ok (.aload_n 0, 1) := by decide +kernel
theorem dlaw_2211 : decode claw 2211 = .ok (.iload_n 3, 1) := by decide +kernel
theorem dlaw_2212 : decode claw 2212 = .ok (.iconst 2, 1) := by decide +kernel
theorem dlaw_2213 : decode claw 2213 = .ok (.iadd, 1) := by decide +kernel
theorem dlaw_2214 : decode claw 2214 = .ok (.iaload, 1) := by decide +kernel
theorem dlaw_2215 : decode claw 2215 = .ok (.aload_n 0, 1) := by decide +kernel
theorem dlaw_2216 : decode claw 2216 = .ok (.iload_n 3, 1) := by decide +kernel
theorem dlaw_2217 : decode claw 2217 = .ok (.iconst 3, 1) := by decide +kernel
theorem dlaw_2218 : decode claw 2218 = .ok (.iadd, 1) := by decide +kernel
theorem dlaw_2219 : decode claw 2219 = .ok (.iaload, 1) := by decide +kernel
theorem dlaw_2220 : decode claw 2220 = .ok (.i2l, 1) := by decide +kernel
theorem dlaw_2221 : decode claw 2221 = .ok (.bipush 32, 2) := by decide +kernel
theorem dlaw_2223 : decode claw 2223 = .ok (.lshl, 1) := by decide +kernel
theorem dlaw_2224 : decode claw 2224 = .ok (.aload_n 0, 1) := by decide +kernel
theorem dlaw_2225 : decode claw 2225 = .ok (.iload_n 3, 1) := by decide +kernel
theorem dlaw_2226 : decode claw 2226 = .ok (.iconst 4, 1) := by decide +kernel
theorem dlaw_2227 : decode claw 2227 = .ok (.iadd, 1) := by decide +kernel
theorem dlaw_2228 : decode claw 2228 = .ok (.iaload, 1) := by decide +kernel
theorem dlaw_2229 : decode claw 2229 = .ok (.i2l, 1) := by decide +kernel
theorem dlaw_2230 : decode claw 2230 = .ok (.ldc2_w 264, 3) := by decide +kernel
theorem dlaw_2233 : decode claw 2233 = .ok (.land, 1) := by decide +kernel
theorem dlaw_2234 : decode claw 2234 = .ok (.lor, 1) := by decide +kernel
theorem dlaw_2235 : decode claw 2235 = .ok (.invokevirtual 266, 3) := by decide +kernel
theorem dlaw_2238 : decode claw 2238 = .ok (.aload_n 2, 1) := by decide +kernel
theorem dlaw_2239 : decode claw 2239 = .ok (.aload_n 0, 1) := by decide +kernel
theorem dlaw_2240 : decode claw 2240 = .ok (.iload_n 3, 1) := by decide +kernel
theorem dlaw_2241 : decode claw 2241 = .ok (.iconst 1, 1) := by decide +kernel
theorem dlaw_2242 : decode claw 2242 = .ok (.iadd, 1) := by decide +kernel
theorem dlaw_2243 : decode claw 2243 = .ok (.iaload, 1) := by decide +kernel
theorem dlaw_2244 : decode claw 2244 = .ok (.aload_n 0, 1) := by decide +kernel
theorem dlaw_2245 : decode claw 2245 = .ok (.iload_n 3, 1) := by decide +kernel
theorem dlaw_2246 : decode claw 2246 = .ok (.iconst 2, 1) := by decide +kernel
theorem dlaw_2247 : decode claw 2247 = .ok (.iadd, 1) := by decide +kernel
theorem dlaw_2248 : decode claw 2248 = .ok (.iaload, 1) := by decide +kernel
theorem dlaw_2249 : decode claw 2249 = .ok (.aload_n 0, 1) := by decide +kernel
theorem dlaw_2250 : decode claw 2250 = .ok (.iload_n 3, 1) := by decide +kernel
theorem dlaw_2251 : decode claw 2251 = .ok (.iconst 3, 1) := by decide +kernel
theorem dlaw_2252 : decode claw 2252 = .ok (.iadd, 1) := by decide +kernel
theorem dlaw_2253 : decode claw 2253 = .ok (.iaload, 1) := by decide +kernel
theorem dlaw_2254 : decode claw 2254 = .ok (.i2l, 1) := by decide +kernel
theorem dlaw_2255 : decode claw 2255 = .ok (.bipush 32, 2) := by decide +kernel
theorem dlaw_2257 : decode claw 2257 = .ok (.lshl, 1) := by decide +kernel
theorem dlaw_2258 : decode claw 2258 = .ok (.aload_n 0, 1) := by decide +kernel
theorem dlaw_2259 : decode claw 2259 = .ok (.iload_n 3, 1) := by decide +kernel
theorem dlaw_2260 : decode claw 2260 = .ok (.iconst 4, 1) := by decide +kernel
theorem dlaw_2261 : decode claw 2261 = .ok (.iadd, 1) := by decide +kernel
theorem dlaw_2262 : decode claw 2262 = .ok (.iaload, 1) := by decide +kernel
theorem dlaw_2263 : decode claw 2263 = .ok (.i2l, 1) := by decide +kernel
theorem dlaw_2264 : decode claw 2264 = .ok (.ldc2_w 264, 3) := by decide +kernel
theorem dlaw_2267 : decode claw 2267 = .ok (.land, 1) := by decide +kernel
theorem dlaw_2268 : decode claw 2268 = .ok (.lor, 1) := by decide +kernel
theorem dlaw_2269 : decode claw 2269 = .ok (.invokevirtual 270, 3) := by decide +kernel
theorem dlaw_2272 : decode claw 2272 = .ok (.if_icmp .eq 68, 3) := by decide +kernel
theorem dlaw_2275 : decode claw 2275 = .ok (.iconst 0, 1) := by decide +kernel
theorem dlaw_2276 : decode claw 2276 = .ok (.ireturn, 1) := by decide +kernel
theorem dlaw_2277 : decode claw 2277 = .ok (.aload_n 1, 1) := by decide +kernel
theorem dlaw_2278 : decode claw 2278 = .ok (.aload_n 0, 1) := by decide +kernel
theorem dlaw_2279 : decode claw 2279 = .ok (.iload_n 3, 1) := by decide +kernel
theorem dlaw_2280 : decode claw 2280 = .ok (.iconst 1, 1) := by decide +kernel
theorem dlaw_2281 : decode claw 2281 = .ok (.iadd, 1) := by decide +kernel
theorem dlaw_2282 : decode claw 2282 = .ok (.iaload, 1) := by decide +kernel
theorem dlaw_2283 : decode claw 2283 = .ok (.aload_n 0, 1) := by decide +kernel
theorem dlaw_2284 : decode claw 2284 = .ok (.iload_n 3, 1) := by decide +kernel
theorem dlaw_2285 : decode claw 2285 = .ok (.iconst 2, 1) := by decide +kernel
theorem dlaw_2286 : decode claw 2286 = .ok (.iadd, 1) := by decide +kernel
theorem dlaw_2287 : decode claw 2287 = .ok (.iaload, 1) := by decide +kernel
theorem dlaw_2288 : decode claw 2288 = .ok (.aload_n 0, 1) := by decide +kernel
theorem dlaw_2289 : decode claw 2289 = .ok (.iload_n 3, 1) := by decide +kernel
theorem dlaw_2290 : decode claw 2290 = .ok (.iconst 3, 1) := by decide +kernel
theorem dlaw_2291 : decode claw 2291 = .ok (.iadd, 1) := by decide +kernel
theorem dlaw_2292 : decode claw 2292 = .ok (.iaload, 1) := by decide +kernel
theorem dlaw_2293 : decode claw 2293 = .ok (.aload_n 0, 1) := by decide +kernel
theorem dlaw_2294 : decode claw 2294 = .ok (.iload_n 3, 1) := by decide +kernel
theorem dlaw_2295 : decode claw 2295 = .ok (.iconst 4, 1) := by decide +kernel
theorem dlaw_2296 : decode claw 2296 = .ok (.iadd, 1) := by decide +kernel
theorem dlaw_2297 : decode claw 2297 = .ok (.iaload, 1) := by decide +kernel
theorem dlaw_2298 : decode claw 2298 = .ok (.aload_n 0, 1) := by decide +kernel
theorem dlaw_2299 : decode claw 2299 = .ok (.iload_n 3, 1) := by decide +kernel
theorem dlaw_2300 : decode claw 2300 = .ok (.iconst 5, 1) := by decide +kernel
theorem dlaw_2301 : decode claw 2301 = .ok (.iadd, 1) := by decide +kernel
theorem dlaw_2302 : decode claw 2302 = .ok (.iaload, 1) := by decide +kernel
theorem dlaw_2303 : decode claw 2303 = .ok (.invokevirtual 271, 3) := by decide +kernel
theorem dlaw_2306 : decode claw 2306 = .ok (.aload_n 2, 1) := by decide +kernel
theorem dlaw_2307 : decode claw 2307 = .ok (.aload_n 0, 1) := by decide +kernel
theorem dlaw_2308 : decode claw 2308 = .ok (.iload_n 3, 1) := by decide +kernel
theorem dlaw_2309 : decode claw 2309 = .ok (.iconst 1, 1) := by decide +kernel
theorem dlaw_2310 : decode claw 2310 = .ok (.iadd, 1) := by decide +kernel
theorem dlaw_2311 : decode claw 2311 = .ok (.iaload, 1) := by decide +kernel
theorem dlaw_2312 : decode claw 2312 = .ok (.aload_n 0, 1) := by decide +kernel
theorem dlaw_2313 : decode claw 2313 = .ok (.iload_n 3, 1) := by decide +kernel
theorem dlaw_2314 : decode claw 2314 = .ok (.iconst 2, 1) := by decide +kernel
theorem dlaw_2315 : decode claw 2315 = .ok (.iadd, 1) := by decide +kernel
theorem dlaw_2316 : decode claw 2316 = .ok (.iaload, 1) := by decide +kernel
theorem dlaw_2317 : decode claw 2317 = .ok (.aload_n 0, 1) := by decide +kernel
theorem dlaw_2318 : decode claw 2318 = .ok (.iload_n 3, 1) := by decide +kernel
theorem dlaw_2319 : decode claw 2319 = .ok (.iconst 3, 1) := by decide +kernel
theorem dlaw_2320 : decode claw 2320 = .ok (.iadd, 1) := by decide +kernel
theorem dlaw_2321 : decode claw 2321 = .ok (.iaload, 1) := by decide +kernel
theorem dlaw_2322 : decode claw 2322 = .ok (.aload_n 0, 1) := by decide +kernel
theorem dlaw_2323 : decode claw 2323 = .ok (.iload_n 3, 1) := by decide +kernel
theorem dlaw_2324 : decode claw 2324 = .ok (.iconst 4, 1) := by decide +kernel
theorem dlaw_2325 : decode claw 2325 = .ok (.iadd, 1) := by decide +kernel
theorem dlaw_2326 : decode claw 2326 = .ok (.iaload, 1) := by decide +kernel
theorem dlaw_2327 : decode claw 2327 = .ok (.aload_n 0, 1) := by decide +kernel
theorem dlaw_2328 : decode claw 2328 = .ok (.iload_n 3, 1) := by decide +kernel
theorem dlaw_2329 : decode claw 2329 = .ok (.iconst 5, 1) := by decide +kernel
theorem dlaw_2330 : decode claw 2330 = .ok (.iadd, 1) := by decide +kernel
theorem dlaw_2331 : decode claw 2331 = .ok (.iaload, 1) := by decide +kernel
theorem dlaw_2332 : decode claw 2332 = .ok (.invokevirtual 274, 3) := by decide +kernel
theorem dlaw_2335 : decode claw 2335 = .ok (.if_icmp .eq 5, 3) := by decide +kernel
theorem dlaw_2338 : decode claw 2338 = .ok (.iconst 0, 1) := by decide +kernel
theorem dlaw_2339 : decode claw 2339 = .ok (.ireturn, 1) := by decide +kernel
theorem dlaw_2340 : decode claw 2340 = .ok (.iinc 3 6, 3) := by decide +kernel
theorem dlaw_2343 : decode claw 2343 = .ok (.goto (-2325), 3) := by decide +kernel
theorem dlaw_2346 : decode claw 2346 = .ok (.iconst 1, 1) := by decide +kernel
theorem dlaw_2347 : decode claw 2347 = .ok (.ireturn, 1) := by decide +kernel
noncomputable def Clw_0 : Sm Int32 := (dSeq (dIf (dCI r_ne (dCallV 11 DX11_feed (aI (aI (aI (aI (aI (aR aN 0 (vR 1)) 1 (dAI (vR 0) (d2 o_iadd (vI 3) (cI 1)))) 2 (dAI (vR 0) (d2 o_iadd (vI 3) (cI 2)))) 3 (dAI (vR 0) (d2 o_iadd (vI 3) (cI 3)))) 4 (dAI (vR 0) (d2 o_iadd (vI 3) (cI 4)))) 5 (dAI (vR 0) (d2 o_iadd (vI 3) (cI 5))))) (dCallV 12 DX12_feed (aI (aI (aI (aI (aI (aR aN 0 (vR 2)) 1 (dAI (vR 0) (d2 o_iadd (vI 3) (cI 1)))) 2 (dAI (vR 0) (d2 o_iadd (vI 3) (cI 2)))) 3 (dAI (vR 0) (d2 o_iadd (vI 3) (cI 3)))) 4 (dAI (vR 0) (d2 o_iadd (vI 3) (cI 4)))) 5 (dAI (vR 0) (d2 o_iadd (vI 3) (cI 5)))))) (dRet (cI 0)) dSkip) dBrk)
theorem sClw_0 : SS (cvoI, .ireturn) milaw [(0, 2), (1, 2), (2, 2), (3, 0)] [2340] [] [(0, 2), (1, 2), (2, 2), (3, 0)] [(0, 2), (1, 2), (2, 2), (3, 0)] 300 [2340] Clw_0 := (t_seq (XA := [2340]) (Γ' := [(0, 2), (1, 2), (2, 2), (3, 0)]) (t_if (pT := 361) (pF := 2340) (X := [2340]) (XA := []) (XB := [2340]) (c_ne_F (pF := 2340) (s_of_xI (x_callV (ts := [(0, 2), (1, 0), (2, 0), (3, 0), (4, 0), (5, 0)]) ck11 rfl kX11_feed mokX11_feed w3_22 w3_23 rfl rfl rfl rfl (a_I (ts := [(0, 2), (1, 0), (2, 0), (3, 0), (4, 0)]) 5 (a_I (ts := [(0, 2), (1, 0), (2, 0), (3, 0)]) 4 (a_I (ts := [(0, 2), (1, 0), (2, 0)]) 3 (a_I (ts := [(0, 2), (1, 0)]) 2 (a_I (ts := [(0, 2)]) 1 (a_R (ts := []) 0 a_nil (s_aload_n dlaw_300 rfl rfl) rfl) (s_dAI (s_aload_n dlaw_301 rfl rfl) (s_iadd (s_iload_n dlaw_302 rfl rfl) (s_iconst dlaw_303 rfl) dlaw_304) dlaw_305) rfl) (s_dAI (s_aload_n dlaw_306 rfl rfl) (s_iadd (s_iload_n dlaw_307 rfl rfl) (s_iconst dlaw_308 rfl) dlaw_309) dlaw_310) rfl) (s_dAI (s_aload_n dlaw_311 rfl rfl) (s_iadd (s_iload_n dlaw_312 rfl rfl) (s_iconst dlaw_313 rfl) dlaw_314) dlaw_315) rfl) (s_dAI (s_aload_n dlaw_316 rfl rfl) (s_iadd (s_iload_n dlaw_317 rfl rfl) (s_iconst dlaw_318 rfl) dlaw_319) dlaw_320) rfl) (s_dAI (s_aload_n dlaw_321 rfl rfl) (s_iadd (s_iload_n dlaw_322 rfl rfl) (s_iconst dlaw_323 rfl) dlaw_324) dlaw_325) rfl) dlaw_326 w3_21)) (s_of_xI (x_callV (ts := [(0, 2), (1, 0), (2, 0), (3, 0), (4, 0), (5, 0)]) ck12 rfl kX12_feed mokX12_feed w7_155 w7_156 rfl rfl rfl rfl (a_I (ts := [(0, 2), (1, 0), (2, 0), (3, 0), (4, 0)]) 5 (a_I (ts := [(0, 2), (1, 0), (2, 0), (3, 0)]) 4 (a_I (ts := [(0, 2), (1, 0), (2, 0)]) 3 (a_I (ts := [(0, 2), (1, 0)]) 2 (a_I (ts := [(0, 2)]) 1 (a_R (ts := []) 0 a_nil (s_aload_n dlaw_329 rfl rfl) rfl) (s_dAI (s_aload_n dlaw_330 rfl rfl) (s_iadd (s_iload_n dlaw_331 rfl rfl) (s_iconst dlaw_332 rfl) dlaw_333) dlaw_334) rfl) (s_dAI (s_aload_n dlaw_335 rfl rfl) (s_iadd (s_iload_n dlaw_336 rfl rfl) (s_iconst dlaw_337 rfl) dlaw_338) dlaw_339) rfl) (s_dAI (s_aload_n dlaw_340 rfl rfl) (s_iadd (s_iload_n dlaw_341 rfl rfl) (s_iconst dlaw_342 rfl) dlaw_343) dlaw_344) rfl) (s_dAI (s_aload_n dlaw_345 rfl rfl) (s_iadd (s_iload_n dlaw_346 rfl rfl) (s_iconst dlaw_347 rfl) dlaw_348) dlaw_349) rfl) (s_dAI (s_aload_n dlaw_350 rfl rfl) (s_iadd (s_iload_n dlaw_351 rfl rfl) (s_iconst dlaw_352 rfl) dlaw_353) dlaw_354) rfl) dlaw_355 w7_154)) dlaw_358 rfl) (t_ret (cv := cvI) (fun _ _ => rfl) (s_iconst dlaw_361 rfl) dlaw_362) (t_skip (ld_in rfl) rfl) lda_nil (lda_cons (ld_in rfl) lda_nil)) (tn_cons (t_brk (ld_in rfl) rfl) tn_nil) (fun _ _ _ _ _ q => by cases q; exact LE.rf _))
noncomputable def Clw_1 : Sm Int32 := (dSeq (dIf (dCI r_ne (dCallV 11 DX11_end (aI (aR aN 0 (vR 1)) 1 (dAI (vR 0) (d2 o_iadd (vI 3) (cI 1))))) (dCallV 12 DX12_end (aI (aR aN 0 (vR 2)) 1 (dAI (vR 0) (d2 o_iadd (vI 3) (cI 1)))))) (dRet (cI 0)) dSkip) dBrk)
theorem sClw_1 : SS (cvoI, .ireturn) milaw [(0, 2), (1, 2), (2, 2), (3, 0)] [2340] [] [(0, 2), (1, 2), (2, 2), (3, 0)] [(0, 2), (1, 2), (2, 2), (3, 0)] 363 [2340] Clw_1 := (t_seq (XA := [2340]) (Γ' := [(0, 2), (1, 2), (2, 2), (3, 0)]) (t_if (pT := 384) (pF := 2340) (X := [2340]) (XA := []) (XB := [2340]) (c_ne_F (pF := 2340) (s_of_xI (x_callV (ts := [(0, 2), (1, 0)]) ck11 rfl kX11_end mokX11_end w3_30 w3_31 rfl rfl rfl rfl (a_I (ts := [(0, 2)]) 1 (a_R (ts := []) 0 a_nil (s_aload_n dlaw_363 rfl rfl) rfl) (s_dAI (s_aload_n dlaw_364 rfl rfl) (s_iadd (s_iload_n dlaw_365 rfl rfl) (s_iconst dlaw_366 rfl) dlaw_367) dlaw_368) rfl) dlaw_369 w3_29)) (s_of_xI (x_callV (ts := [(0, 2), (1, 0)]) ck12 rfl kX12_end mokX12_end w7_163 w7_164 rfl rfl rfl rfl (a_I (ts := [(0, 2)]) 1 (a_R (ts := []) 0 a_nil (s_aload_n dlaw_372 rfl rfl) rfl) (s_dAI (s_aload_n dlaw_373 rfl rfl) (s_iadd (s_iload_n dlaw_374 rfl rfl) (s_iconst dlaw_375 rfl) dlaw_376) dlaw_377) rfl) dlaw_378 w7_162)) dlaw_381 rfl) (t_ret (cv := cvI) (fun _ _ => rfl) (s_iconst dlaw_384 rfl) dlaw_385) (t_skip (ld_in rfl) rfl) lda_nil (lda_cons (ld_in rfl) lda_nil)) (tn_cons (t_brk (ld_in rfl) rfl) tn_nil) (fun _ _ _ _ _ q => by cases q; exact LE.rf _))
noncomputable def Clw_2 : Sm Int32 := (dSeq (dIf (dCI r_ne (dCallV 11 DX11_port (aR aN 0 (vR 1))) (dCallV 12 DX12_port (aR aN 0 (vR 2)))) (dRet (cI 0)) dSkip) dBrk)
theorem sClw_2 : SS (cvoI, .ireturn) milaw [(0, 2), (1, 2), (2, 2), (3, 0)] [2340] [] [(0, 2), (1, 2), (2, 2), (3, 0)] [(0, 2), (1, 2), (2, 2), (3, 0)] 386 [2340] Clw_2 := (t_seq (XA := [2340]) (Γ' := [(0, 2), (1, 2), (2, 2), (3, 0)]) (t_if (pT := 397) (pF := 2340) (X := [2340]) (XA := []) (XB := [2340]) (c_ne_F (pF := 2340) (s_of_xI (x_callV (ts := [(0, 2)]) ck11 rfl kX11_port mokX11_port w3_34 w3_35 rfl rfl rfl rfl (a_R (ts := []) 0 a_nil (s_aload_n dlaw_386 rfl rfl) rfl) dlaw_387 w3_33)) (s_of_xI (x_callV (ts := [(0, 2)]) ck12 rfl kX12_port mokX12_port w7_171 w7_172 rfl rfl rfl rfl (a_R (ts := []) 0 a_nil (s_aload_n dlaw_390 rfl rfl) rfl) dlaw_391 w7_170)) dlaw_394 rfl) (t_ret (cv := cvI) (fun _ _ => rfl) (s_iconst dlaw_397 rfl) dlaw_398) (t_skip (ld_in rfl) rfl) lda_nil (lda_cons (ld_in rfl) lda_nil)) (tn_cons (t_brk (ld_in rfl) rfl) tn_nil) (fun _ _ _ _ _ q => by cases q; exact LE.rf _))
noncomputable def Clw_3 : Sm Int32 := (dSeq (dIf (dCI r_ne (dCallV 11 DX11_fault (aI (aR aN 0 (vR 1)) 1 (dAI (vR 0) (d2 o_iadd (vI 3) (cI 1))))) (dCallV 12 DX12_fault (aI (aR aN 0 (vR 2)) 1 (dAI (vR 0) (d2 o_iadd (vI 3) (cI 1)))))) (dRet (cI 0)) dSkip) dBrk)
theorem sClw_3 : SS (cvoI, .ireturn) milaw [(0, 2), (1, 2), (2, 2), (3, 0)] [2340] [] [(0, 2), (1, 2), (2, 2), (3, 0)] [(0, 2), (1, 2), (2, 2), (3, 0)] 399 [2340] Clw_3 := (t_seq (XA := [2340]) (Γ' := [(0, 2), (1, 2), (2, 2), (3, 0)]) (t_if (pT := 420) (pF := 2340) (X := [2340]) (XA := []) (XB := [2340]) (c_ne_F (pF := 2340) (s_of_xI (x_callV (ts := [(0, 2), (1, 0)]) ck11 rfl kX11_fault mokX11_fault w3_217 w3_218 rfl rfl rfl rfl (a_I (ts := [(0, 2)]) 1 (a_R (ts := []) 0 a_nil (s_aload_n dlaw_399 rfl rfl) rfl) (s_dAI (s_aload_n dlaw_400 rfl rfl) (s_iadd (s_iload_n dlaw_401 rfl rfl) (s_iconst dlaw_402 rfl) dlaw_403) dlaw_404) rfl) dlaw_405 w3_216)) (s_of_xI (x_callV (ts := [(0, 2), (1, 0)]) ck12 rfl kX12_fault mokX12_fault w7_167 w7_168 rfl rfl rfl rfl (a_I (ts := [(0, 2)]) 1 (a_R (ts := []) 0 a_nil (s_aload_n dlaw_408 rfl rfl) rfl) (s_dAI (s_aload_n dlaw_409 rfl rfl) (s_iadd (s_iload_n dlaw_410 rfl rfl) (s_iconst dlaw_411 rfl) dlaw_412) dlaw_413) rfl) dlaw_414 w7_166)) dlaw_417 rfl) (t_ret (cv := cvI) (fun _ _ => rfl) (s_iconst dlaw_420 rfl) dlaw_421) (t_skip (ld_in rfl) rfl) lda_nil (lda_cons (ld_in rfl) lda_nil)) (tn_cons (t_brk (ld_in rfl) rfl) tn_nil) (fun _ _ _ _ _ q => by cases q; exact LE.rf _))
noncomputable def Clw_4 : Sm Int32 := (dSeq (dIf (dCI r_ne (dCallV 11 DX11_house (aI (aR aN 0 (vR 1)) 1 (dAI (vR 0) (d2 o_iadd (vI 3) (cI 1))))) (dCallV 12 DX12_house (aI (aR aN 0 (vR 2)) 1 (dAI (vR 0) (d2 o_iadd (vI 3) (cI 1)))))) (dRet (cI 0)) dSkip) dBrk)
theorem sClw_4 : SS (cvoI, .ireturn) milaw [(0, 2), (1, 2), (2, 2), (3, 0)] [2340] [] [(0, 2), (1, 2), (2, 2), (3, 0)] [(0, 2), (1, 2), (2, 2), (3, 0)] 422 [2340] Clw_4 := (t_seq (XA := [2340]) (Γ' := [(0, 2), (1, 2), (2, 2), (3, 0)]) (t_if (pT := 443) (pF := 2340) (X := [2340]) (XA := []) (XB := [2340]) (c_ne_F (pF := 2340) (s_of_xI (x_callV (ts := [(0, 2), (1, 0)]) ck11 rfl kX11_house mokX11_house w3_221 w3_222 rfl rfl rfl rfl (a_I (ts := [(0, 2)]) 1 (a_R (ts := []) 0 a_nil (s_aload_n dlaw_422 rfl rfl) rfl) (s_dAI (s_aload_n dlaw_423 rfl rfl) (s_iadd (s_iload_n dlaw_424 rfl rfl) (s_iconst dlaw_425 rfl) dlaw_426) dlaw_427) rfl) dlaw_428 w3_220)) (s_of_xI (x_callV (ts := [(0, 2), (1, 0)]) ck12 rfl kX12_house mokX12_house w8_53 w8_54 rfl rfl rfl rfl (a_I (ts := [(0, 2)]) 1 (a_R (ts := []) 0 a_nil (s_aload_n dlaw_431 rfl rfl) rfl) (s_dAI (s_aload_n dlaw_432 rfl rfl) (s_iadd (s_iload_n dlaw_433 rfl rfl) (s_iconst dlaw_434 rfl) dlaw_435) dlaw_436) rfl) dlaw_437 w8_52)) dlaw_440 rfl) (t_ret (cv := cvI) (fun _ _ => rfl) (s_iconst dlaw_443 rfl) dlaw_444) (t_skip (ld_in rfl) rfl) lda_nil (lda_cons (ld_in rfl) lda_nil)) (tn_cons (t_brk (ld_in rfl) rfl) tn_nil) (fun _ _ _ _ _ q => by cases q; exact LE.rf _))
noncomputable def Clw_5 : Sm Int32 := (dSeq (dIf (dCI r_ne (dCallV 11 DX11_carrier (aI (aI (aR aN 0 (vR 1)) 1 (dAI (vR 0) (d2 o_iadd (vI 3) (cI 1)))) 2 (dAI (vR 0) (d2 o_iadd (vI 3) (cI 2))))) (dCallV 12 DX12_carrier (aI (aI (aR aN 0 (vR 2)) 1 (dAI (vR 0) (d2 o_iadd (vI 3) (cI 1)))) 2 (dAI (vR 0) (d2 o_iadd (vI 3) (cI 2)))))) (dRet (cI 0)) dSkip) dBrk)
theorem sClw_5 : SS (cvoI, .ireturn) milaw [(0, 2), (1, 2), (2, 2), (3, 0)] [2340] [] [(0, 2), (1, 2), (2, 2), (3, 0)] [(0, 2), (1, 2), (2, 2), (3, 0)] 445 [2340] Clw_5 := (t_seq (XA := [2340]) (Γ' := [(0, 2), (1, 2), (2, 2), (3, 0)]) (t_if (pT := 476) (pF := 2340) (X := [2340]) (XA := []) (XB := [2340]) (c_ne_F (pF := 2340) (s_of_xI (x_callV (ts := [(0, 2), (1, 0), (2, 0)]) ck11 rfl kX11_carrier mokX11_carrier w3_232 w3_233 rfl rfl rfl rfl (a_I (ts := [(0, 2), (1, 0)]) 2 (a_I (ts := [(0, 2)]) 1 (a_R (ts := []) 0 a_nil (s_aload_n dlaw_445 rfl rfl) rfl) (s_dAI (s_aload_n dlaw_446 rfl rfl) (s_iadd (s_iload_n dlaw_447 rfl rfl) (s_iconst dlaw_448 rfl) dlaw_449) dlaw_450) rfl) (s_dAI (s_aload_n dlaw_451 rfl rfl) (s_iadd (s_iload_n dlaw_452 rfl rfl) (s_iconst dlaw_453 rfl) dlaw_454) dlaw_455) rfl) dlaw_456 w3_231)) (s_of_xI (x_callV (ts := [(0, 2), (1, 0), (2, 0)]) ck12 rfl kX12_carrier mokX12_carrier w8_65 w8_66 rfl rfl rfl rfl (a_I (ts := [(0, 2), (1, 0)]) 2 (a_I (ts := [(0, 2)]) 1 (a_R (ts := []) 0 a_nil (s_aload_n dlaw_459 rfl rfl) rfl) (s_dAI (s_aload_n dlaw_460 rfl rfl) (s_iadd (s_iload_n dlaw_461 rfl rfl) (s_iconst dlaw_462 rfl) dlaw_463) dlaw_464) rfl) (s_dAI (s_aload_n dlaw_465 rfl rfl) (s_iadd (s_iload_n dlaw_466 rfl rfl) (s_iconst dlaw_467 rfl) dlaw_468) dlaw_469) rfl) dlaw_470 w8_64)) dlaw_473 rfl) (t_ret (cv := cvI) (fun _ _ => rfl) (s_iconst dlaw_476 rfl) dlaw_477) (t_skip (ld_in rfl) rfl) lda_nil (lda_cons (ld_in rfl) lda_nil)) (tn_cons (t_brk (ld_in rfl) rfl) tn_nil) (fun _ _ _ _ _ q => by cases q; exact LE.rf _))
noncomputable def Clw_6 : Sm Int32 := (dSeq (dIf (dCI r_ne (dCallV 11 DX11_word (aI (aI (aR aN 0 (vR 1)) 1 (dAI (vR 0) (d2 o_iadd (vI 3) (cI 1)))) 2 (dAI (vR 0) (d2 o_iadd (vI 3) (cI 2))))) (dCallV 12 DX12_word (aI (aI (aR aN 0 (vR 2)) 1 (dAI (vR 0) (d2 o_iadd (vI 3) (cI 1)))) 2 (dAI (vR 0) (d2 o_iadd (vI 3) (cI 2)))))) (dRet (cI 0)) dSkip) dBrk)
theorem sClw_6 : SS (cvoI, .ireturn) milaw [(0, 2), (1, 2), (2, 2), (3, 0)] [2340] [] [(0, 2), (1, 2), (2, 2), (3, 0)] [(0, 2), (1, 2), (2, 2), (3, 0)] 478 [2340] Clw_6 := (t_seq (XA := [2340]) (Γ' := [(0, 2), (1, 2), (2, 2), (3, 0)]) (t_if (pT := 509) (pF := 2340) (X := [2340]) (XA := []) (XB := [2340]) (c_ne_F (pF := 2340) (s_of_xI (x_callV (ts := [(0, 2), (1, 0), (2, 0)]) ck11 rfl kX11_word mokX11_word w4_3 w4_4 rfl rfl rfl rfl (a_I (ts := [(0, 2), (1, 0)]) 2 (a_I (ts := [(0, 2)]) 1 (a_R (ts := []) 0 a_nil (s_aload_n dlaw_478 rfl rfl) rfl) (s_dAI (s_aload_n dlaw_479 rfl rfl) (s_iadd (s_iload_n dlaw_480 rfl rfl) (s_iconst dlaw_481 rfl) dlaw_482) dlaw_483) rfl) (s_dAI (s_aload_n dlaw_484 rfl rfl) (s_iadd (s_iload_n dlaw_485 rfl rfl) (s_iconst dlaw_486 rfl) dlaw_487) dlaw_488) rfl) dlaw_489 w4_2)) (s_of_xI (x_callV (ts := [(0, 2), (1, 0), (2, 0)]) ck12 rfl kX12_word mokX12_word w8_80 w8_81 rfl rfl rfl rfl (a_I (ts := [(0, 2), (1, 0)]) 2 (a_I (ts := [(0, 2)]) 1 (a_R (ts := []) 0 a_nil (s_aload_n dlaw_492 rfl rfl) rfl) (s_dAI (s_aload_n dlaw_493 rfl rfl) (s_iadd (s_iload_n dlaw_494 rfl rfl) (s_iconst dlaw_495 rfl) dlaw_496) dlaw_497) rfl) (s_dAI (s_aload_n dlaw_498 rfl rfl) (s_iadd (s_iload_n dlaw_499 rfl rfl) (s_iconst dlaw_500 rfl) dlaw_501) dlaw_502) rfl) dlaw_503 w8_79)) dlaw_506 rfl) (t_ret (cv := cvI) (fun _ _ => rfl) (s_iconst dlaw_509 rfl) dlaw_510) (t_skip (ld_in rfl) rfl) lda_nil (lda_cons (ld_in rfl) lda_nil)) (tn_cons (t_brk (ld_in rfl) rfl) tn_nil) (fun _ _ _ _ _ q => by cases q; exact LE.rf _))
noncomputable def Clw_7 : Sm Int32 := (dSeq (dIf (dCI r_ne (dCallV 11 DX11_doors (aI (aR aN 0 (vR 1)) 1 (dAI (vR 0) (d2 o_iadd (vI 3) (cI 1))))) (dCallV 12 DX12_doors (aI (aR aN 0 (vR 2)) 1 (dAI (vR 0) (d2 o_iadd (vI 3) (cI 1)))))) (dRet (cI 0)) dSkip) dBrk)
theorem sClw_7 : SS (cvoI, .ireturn) milaw [(0, 2), (1, 2), (2, 2), (3, 0)] [2340] [] [(0, 2), (1, 2), (2, 2), (3, 0)] [(0, 2), (1, 2), (2, 2), (3, 0)] 511 [2340] Clw_7 := (t_seq (XA := [2340]) (Γ' := [(0, 2), (1, 2), (2, 2), (3, 0)]) (t_if (pT := 532) (pF := 2340) (X := [2340]) (XA := []) (XB := [2340]) (c_ne_F (pF := 2340) (s_of_xI (x_callV (ts := [(0, 2), (1, 0)]) ck11 rfl kX11_doors mokX11_doors w4_16 w4_17 rfl rfl rfl rfl (a_I (ts := [(0, 2)]) 1 (a_R (ts := []) 0 a_nil (s_aload_n dlaw_511 rfl rfl) rfl) (s_dAI (s_aload_n dlaw_512 rfl rfl) (s_iadd (s_iload_n dlaw_513 rfl rfl) (s_iconst dlaw_514 rfl) dlaw_515) dlaw_516) rfl) dlaw_517 w4_15)) (s_of_xI (x_callV (ts := [(0, 2), (1, 0)]) ck12 rfl kX12_doors mokX12_doors w8_92 w8_93 rfl rfl rfl rfl (a_I (ts := [(0, 2)]) 1 (a_R (ts := []) 0 a_nil (s_aload_n dlaw_520 rfl rfl) rfl) (s_dAI (s_aload_n dlaw_521 rfl rfl) (s_iadd (s_iload_n dlaw_522 rfl rfl) (s_iconst dlaw_523 rfl) dlaw_524) dlaw_525) rfl) dlaw_526 w8_91)) dlaw_529 rfl) (t_ret (cv := cvI) (fun _ _ => rfl) (s_iconst dlaw_532 rfl) dlaw_533) (t_skip (ld_in rfl) rfl) lda_nil (lda_cons (ld_in rfl) lda_nil)) (tn_cons (t_brk (ld_in rfl) rfl) tn_nil) (fun _ _ _ _ _ q => by cases q; exact LE.rf _))
noncomputable def Clw_8 : Sm Int32 := (dSeq (dIf (dCI r_ne (dCallV 11 DX11_far (aI (aI (aR aN 0 (vR 1)) 1 (dAI (vR 0) (d2 o_iadd (vI 3) (cI 1)))) 2 (dAI (vR 0) (d2 o_iadd (vI 3) (cI 2))))) (dCallV 12 DX12_far (aI (aI (aR aN 0 (vR 2)) 1 (dAI (vR 0) (d2 o_iadd (vI 3) (cI 1)))) 2 (dAI (vR 0) (d2 o_iadd (vI 3) (cI 2)))))) (dRet (cI 0)) dSkip) dBrk)
theorem sClw_8 : SS (cvoI, .ireturn) milaw [(0, 2), (1, 2), (2, 2), (3, 0)] [2340] [] [(0, 2), (1, 2), (2, 2), (3, 0)] [(0, 2), (1, 2), (2, 2), (3, 0)] 534 [2340] Clw_8 := (t_seq (XA := [2340]) (Γ' := [(0, 2), (1, 2), (2, 2), (3, 0)]) (t_if (pT := 565) (pF := 2340) (X := [2340]) (XA := []) (XB := [2340]) (c_ne_F (pF := 2340) (s_of_xI (x_callV (ts := [(0, 2), (1, 0), (2, 0)]) ck11 rfl kX11_far mokX11_far w4_24 w4_25 rfl rfl rfl rfl (a_I (ts := [(0, 2), (1, 0)]) 2 (a_I (ts := [(0, 2)]) 1 (a_R (ts := []) 0 a_nil (s_aload_n dlaw_534 rfl rfl) rfl) (s_dAI (s_aload_n dlaw_535 rfl rfl) (s_iadd (s_iload_n dlaw_536 rfl rfl) (s_iconst dlaw_537 rfl) dlaw_538) dlaw_539) rfl) (s_dAI (s_aload_n dlaw_540 rfl rfl) (s_iadd (s_iload_n dlaw_541 rfl rfl) (s_iconst dlaw_542 rfl) dlaw_543) dlaw_544) rfl) dlaw_545 w4_23)) (s_of_xI (x_callV (ts := [(0, 2), (1, 0), (2, 0)]) ck12 rfl kX12_far mokX12_far w8_107 w8_108 rfl rfl rfl rfl (a_I (ts := [(0, 2), (1, 0)]) 2 (a_I (ts := [(0, 2)]) 1 (a_R (ts := []) 0 a_nil (s_aload_n dlaw_548 rfl rfl) rfl) (s_dAI (s_aload_n dlaw_549 rfl rfl) (s_iadd (s_iload_n dlaw_550 rfl rfl) (s_iconst dlaw_551 rfl) dlaw_552) dlaw_553) rfl) (s_dAI (s_aload_n dlaw_554 rfl rfl) (s_iadd (s_iload_n dlaw_555 rfl rfl) (s_iconst dlaw_556 rfl) dlaw_557) dlaw_558) rfl) dlaw_559 w8_106)) dlaw_562 rfl) (t_ret (cv := cvI) (fun _ _ => rfl) (s_iconst dlaw_565 rfl) dlaw_566) (t_skip (ld_in rfl) rfl) lda_nil (lda_cons (ld_in rfl) lda_nil)) (tn_cons (t_brk (ld_in rfl) rfl) tn_nil) (fun _ _ _ _ _ q => by cases q; exact LE.rf _))
noncomputable def Clw_9 : Sm Int32 := (dSeq (dIf (dCI r_ne (dCallV 11 DX11_climb (aI (aI (aR aN 0 (vR 1)) 1 (dAI (vR 0) (d2 o_iadd (vI 3) (cI 1)))) 2 (dAI (vR 0) (d2 o_iadd (vI 3) (cI 2))))) (dCallV 12 DX12_climb (aI (aI (aR aN 0 (vR 2)) 1 (dAI (vR 0) (d2 o_iadd (vI 3) (cI 1)))) 2 (dAI (vR 0) (d2 o_iadd (vI 3) (cI 2)))))) (dRet (cI 0)) dSkip) dBrk)
theorem sClw_9 : SS (cvoI, .ireturn) milaw [(0, 2), (1, 2), (2, 2), (3, 0)] [2340] [] [(0, 2), (1, 2), (2, 2), (3, 0)] [(0, 2), (1, 2), (2, 2), (3, 0)] 567 [2340] Clw_9 := (t_seq (XA := [2340]) (Γ' := [(0, 2), (1, 2), (2, 2), (3, 0)]) (t_if (pT := 598) (pF := 2340) (X := [2340]) (XA := []) (XB := [2340]) (c_ne_F (pF := 2340) (s_of_xI (x_callV (ts := [(0, 2), (1, 0), (2, 0)]) ck11 rfl kX11_climb mokX11_climb w4_44 w4_45 rfl rfl rfl rfl (a_I (ts := [(0, 2), (1, 0)]) 2 (a_I (ts := [(0, 2)]) 1 (a_R (ts := []) 0 a_nil (s_aload_n dlaw_567 rfl rfl) rfl) (s_dAI (s_aload_n dlaw_568 rfl rfl) (s_iadd (s_iload_n dlaw_569 rfl rfl) (s_iconst dlaw_570 rfl) dlaw_571) dlaw_572) rfl) (s_dAI (s_aload_n dlaw_573 rfl rfl) (s_iadd (s_iload_n dlaw_574 rfl rfl) (s_iconst dlaw_575 rfl) dlaw_576) dlaw_577) rfl) dlaw_578 w4_43)) (s_of_xI (x_callV (ts := [(0, 2), (1, 0), (2, 0)]) ck12 rfl kX12_climb mokX12_climb w8_119 w8_120 rfl rfl rfl rfl (a_I (ts := [(0, 2), (1, 0)]) 2 (a_I (ts := [(0, 2)]) 1 (a_R (ts := []) 0 a_nil (s_aload_n dlaw_581 rfl rfl) rfl) (s_dAI (s_aload_n dlaw_582 rfl rfl) (s_iadd (s_iload_n dlaw_583 rfl rfl) (s_iconst dlaw_584 rfl) dlaw_585) dlaw_586) rfl) (s_dAI (s_aload_n dlaw_587 rfl rfl) (s_iadd (s_iload_n dlaw_588 rfl rfl) (s_iconst dlaw_589 rfl) dlaw_590) dlaw_591) rfl) dlaw_592 w8_118)) dlaw_595 rfl) (t_ret (cv := cvI) (fun _ _ => rfl) (s_iconst dlaw_598 rfl) dlaw_599) (t_skip (ld_in rfl) rfl) lda_nil (lda_cons (ld_in rfl) lda_nil)) (tn_cons (t_brk (ld_in rfl) rfl) tn_nil) (fun _ _ _ _ _ q => by cases q; exact LE.rf _))
noncomputable def Clw_10 : Sm Int32 := (dSeq (dIf (dCI r_ne (dCallV 11 DX11_at (aI (aI (aR aN 0 (vR 1)) 1 (dAI (vR 0) (d2 o_iadd (vI 3) (cI 1)))) 2 (dAI (vR 0) (d2 o_iadd (vI 3) (cI 2))))) (dCallV 12 DX12_at (aI (aI (aR aN 0 (vR 2)) 1 (dAI (vR 0) (d2 o_iadd (vI 3) (cI 1)))) 2 (dAI (vR 0) (d2 o_iadd (vI 3) (cI 2)))))) (dRet (cI 0)) dSkip) dBrk)
theorem sClw_10 : SS (cvoI, .ireturn) milaw [(0, 2), (1, 2), (2, 2), (3, 0)] [2340] [] [(0, 2), (1, 2), (2, 2), (3, 0)] [(0, 2), (1, 2), (2, 2), (3, 0)] 600 [2340] Clw_10 := (t_seq (XA := [2340]) (Γ' := [(0, 2), (1, 2), (2, 2), (3, 0)]) (t_if (pT := 631) (pF := 2340) (X := [2340]) (XA := []) (XB := [2340]) (c_ne_F (pF := 2340) (s_of_xI (x_callV (ts := [(0, 2), (1, 0), (2, 0)]) ck11 rfl kX11_at mokX11_at w4_68 w4_69 rfl rfl rfl rfl (a_I (ts := [(0, 2), (1, 0)]) 2 (a_I (ts := [(0, 2)]) 1 (a_R (ts := []) 0 a_nil (s_aload_n dlaw_600 rfl rfl) rfl) (s_dAI (s_aload_n dlaw_601 rfl rfl) (s_iadd (s_iload_n dlaw_602 rfl rfl) (s_iconst dlaw_603 rfl) dlaw_604) dlaw_605) rfl) (s_dAI (s_aload_n dlaw_606 rfl rfl) (s_iadd (s_iload_n dlaw_607 rfl rfl) (s_iconst dlaw_608 rfl) dlaw_609) dlaw_610) rfl) dlaw_611 w4_67)) (s_of_xI (x_callV (ts := [(0, 2), (1, 0), (2, 0)]) ck12 rfl kX12_at mokX12_at w8_123 w8_124 rfl rfl rfl rfl (a_I (ts := [(0, 2), (1, 0)]) 2 (a_I (ts := [(0, 2)]) 1 (a_R (ts := []) 0 a_nil (s_aload_n dlaw_614 rfl rfl) rfl) (s_dAI (s_aload_n dlaw_615 rfl rfl) (s_iadd (s_iload_n dlaw_616 rfl rfl) (s_iconst dlaw_617 rfl) dlaw_618) dlaw_619) rfl) (s_dAI (s_aload_n dlaw_620 rfl rfl) (s_iadd (s_iload_n dlaw_621 rfl rfl) (s_iconst dlaw_622 rfl) dlaw_623) dlaw_624) rfl) dlaw_625 w8_122)) dlaw_628 rfl) (t_ret (cv := cvI) (fun _ _ => rfl) (s_iconst dlaw_631 rfl) dlaw_632) (t_skip (ld_in rfl) rfl) lda_nil (lda_cons (ld_in rfl) lda_nil)) (tn_cons (t_brk (ld_in rfl) rfl) tn_nil) (fun _ _ _ _ _ q => by cases q; exact LE.rf _))
noncomputable def Clw_11 : Sm Int32 := (dSeq (dIf (dCI r_ne (dCallV 11 DX11_lies (aI (aI (aR aN 0 (vR 1)) 1 (dAI (vR 0) (d2 o_iadd (vI 3) (cI 1)))) 2 (dAI (vR 0) (d2 o_iadd (vI 3) (cI 2))))) (dCallV 12 DX12_lies (aI (aI (aR aN 0 (vR 2)) 1 (dAI (vR 0) (d2 o_iadd (vI 3) (cI 1)))) 2 (dAI (vR 0) (d2 o_iadd (vI 3) (cI 2)))))) (dRet (cI 0)) dSkip) dBrk)
theorem sClw_11 : SS (cvoI, .ireturn) milaw [(0, 2), (1, 2), (2, 2), (3, 0)] [2340] [] [(0, 2), (1, 2), (2, 2), (3, 0)] [(0, 2), (1, 2), (2, 2), (3, 0)] 633 [2340] Clw_11 := (t_seq (XA := [2340]) (Γ' := [(0, 2), (1, 2), (2, 2), (3, 0)]) (t_if (pT := 664) (pF := 2340) (X := [2340]) (XA := []) (XB := [2340]) (c_ne_F (pF := 2340) (s_of_xI (x_callV (ts := [(0, 2), (1, 0), (2, 0)]) ck11 rfl kX11_lies mokX11_lies w4_151 w4_152 rfl rfl rfl rfl (a_I (ts := [(0, 2), (1, 0)]) 2 (a_I (ts := [(0, 2)]) 1 (a_R (ts := []) 0 a_nil (s_aload_n dlaw_633 rfl rfl) rfl) (s_dAI (s_aload_n dlaw_634 rfl rfl) (s_iadd (s_iload_n dlaw_635 rfl rfl) (s_iconst dlaw_636 rfl) dlaw_637) dlaw_638) rfl) (s_dAI (s_aload_n dlaw_639 rfl rfl) (s_iadd (s_iload_n dlaw_640 rfl rfl) (s_iconst dlaw_641 rfl) dlaw_642) dlaw_643) rfl) dlaw_644 w4_150)) (s_of_xI (x_callV (ts := [(0, 2), (1, 0), (2, 0)]) ck12 rfl kX12_lies mokX12_lies w8_175 w8_176 rfl rfl rfl rfl (a_I (ts := [(0, 2), (1, 0)]) 2 (a_I (ts := [(0, 2)]) 1 (a_R (ts := []) 0 a_nil (s_aload_n dlaw_647 rfl rfl) rfl) (s_dAI (s_aload_n dlaw_648 rfl rfl) (s_iadd (s_iload_n dlaw_649 rfl rfl) (s_iconst dlaw_650 rfl) dlaw_651) dlaw_652) rfl) (s_dAI (s_aload_n dlaw_653 rfl rfl) (s_iadd (s_iload_n dlaw_654 rfl rfl) (s_iconst dlaw_655 rfl) dlaw_656) dlaw_657) rfl) dlaw_658 w8_174)) dlaw_661 rfl) (t_ret (cv := cvI) (fun _ _ => rfl) (s_iconst dlaw_664 rfl) dlaw_665) (t_skip (ld_in rfl) rfl) lda_nil (lda_cons (ld_in rfl) lda_nil)) (tn_cons (t_brk (ld_in rfl) rfl) tn_nil) (fun _ _ _ _ _ q => by cases q; exact LE.rf _))
noncomputable def Clw_12 : Sm Int32 := (dSeq (dIf (dCI r_ne (dCallV 11 DX11_left (aI (aI (aR aN 0 (vR 1)) 1 (dAI (vR 0) (d2 o_iadd (vI 3) (cI 1)))) 2 (dAI (vR 0) (d2 o_iadd (vI 3) (cI 2))))) (dCallV 12 DX12_left (aI (aI (aR aN 0 (vR 2)) 1 (dAI (vR 0) (d2 o_iadd (vI 3) (cI 1)))) 2 (dAI (vR 0) (d2 o_iadd (vI 3) (cI 2)))))) (dRet (cI 0)) dSkip) dBrk)
theorem sClw_12 : SS (cvoI, .ireturn) milaw [(0, 2), (1, 2), (2, 2), (3, 0)] [2340] [] [(0, 2), (1, 2), (2, 2), (3, 0)] [(0, 2), (1, 2), (2, 2), (3, 0)] 666 [2340] Clw_12 := (t_seq (XA := [2340]) (Γ' := [(0, 2), (1, 2), (2, 2), (3, 0)]) (t_if (pT := 697) (pF := 2340) (X := [2340]) (XA := []) (XB := [2340]) (c_ne_F (pF := 2340) (s_of_xI (x_callV (ts := [(0, 2), (1, 0), (2, 0)]) ck11 rfl kX11_left mokX11_left w4_163 w4_164 rfl rfl rfl rfl (a_I (ts := [(0, 2), (1, 0)]) 2 (a_I (ts := [(0, 2)]) 1 (a_R (ts := []) 0 a_nil (s_aload_n dlaw_666 rfl rfl) rfl) (s_dAI (s_aload_n dlaw_667 rfl rfl) (s_iadd (s_iload_n dlaw_668 rfl rfl) (s_iconst dlaw_669 rfl) dlaw_670) dlaw_671) rfl) (s_dAI (s_aload_n dlaw_672 rfl rfl) (s_iadd (s_iload_n dlaw_673 rfl rfl) (s_iconst dlaw_674 rfl) dlaw_675) dlaw_676) rfl) dlaw_677 w4_162)) (s_of_xI (x_callV (ts := [(0, 2), (1, 0), (2, 0)]) ck12 rfl kX12_left mokX12_left w8_179 w8_180 rfl rfl rfl rfl (a_I (ts := [(0, 2), (1, 0)]) 2 (a_I (ts := [(0, 2)]) 1 (a_R (ts := []) 0 a_nil (s_aload_n dlaw_680 rfl rfl) rfl) (s_dAI (s_aload_n dlaw_681 rfl rfl) (s_iadd (s_iload_n dlaw_682 rfl rfl) (s_iconst dlaw_683 rfl) dlaw_684) dlaw_685) rfl) (s_dAI (s_aload_n dlaw_686 rfl rfl) (s_iadd (s_iload_n dlaw_687 rfl rfl) (s_iconst dlaw_688 rfl) dlaw_689) dlaw_690) rfl) dlaw_691 w8_178)) dlaw_694 rfl) (t_ret (cv := cvI) (fun _ _ => rfl) (s_iconst dlaw_697 rfl) dlaw_698) (t_skip (ld_in rfl) rfl) lda_nil (lda_cons (ld_in rfl) lda_nil)) (tn_cons (t_brk (ld_in rfl) rfl) tn_nil) (fun _ _ _ _ _ q => by cases q; exact LE.rf _))
noncomputable def Clw_13 : Sm Int32 := (dSeq (dIf (dCI r_ne (dCallV 11 DX11_weight (aI (aI (aR aN 0 (vR 1)) 1 (dAI (vR 0) (d2 o_iadd (vI 3) (cI 1)))) 2 (dAI (vR 0) (d2 o_iadd (vI 3) (cI 2))))) (dCallV 12 DX12_weight (aI (aI (aR aN 0 (vR 2)) 1 (dAI (vR 0) (d2 o_iadd (vI 3) (cI 1)))) 2 (dAI (vR 0) (d2 o_iadd (vI 3) (cI 2)))))) (dRet (cI 0)) dSkip) dBrk)
theorem sClw_13 : SS (cvoI, .ireturn) milaw [(0, 2), (1, 2), (2, 2), (3, 0)] [2340] [] [(0, 2), (1, 2), (2, 2), (3, 0)] [(0, 2), (1, 2), (2, 2), (3, 0)] 699 [2340] Clw_13 := (t_seq (XA := [2340]) (Γ' := [(0, 2), (1, 2), (2, 2), (3, 0)]) (t_if (pT := 730) (pF := 2340) (X := [2340]) (XA := []) (XB := [2340]) (c_ne_F (pF := 2340) (s_of_xI (x_callV (ts := [(0, 2), (1, 0), (2, 0)]) ck11 rfl kX11_weight mokX11_weight w4_171 w4_172 rfl rfl rfl rfl (a_I (ts := [(0, 2), (1, 0)]) 2 (a_I (ts := [(0, 2)]) 1 (a_R (ts := []) 0 a_nil (s_aload_n dlaw_699 rfl rfl) rfl) (s_dAI (s_aload_n dlaw_700 rfl rfl) (s_iadd (s_iload_n dlaw_701 rfl rfl) (s_iconst dlaw_702 rfl) dlaw_703) dlaw_704) rfl) (s_dAI (s_aload_n dlaw_705 rfl rfl) (s_iadd (s_iload_n dlaw_706 rfl rfl) (s_iconst dlaw_707 rfl) dlaw_708) dlaw_709) rfl) dlaw_710 w4_170)) (s_of_xI (x_callV (ts := [(0, 2), (1, 0), (2, 0)]) ck12 rfl kX12_weight mokX12_weight w8_183 w8_184 rfl rfl rfl rfl (a_I (ts := [(0, 2), (1, 0)]) 2 (a_I (ts := [(0, 2)]) 1 (a_R (ts := []) 0 a_nil (s_aload_n dlaw_713 rfl rfl) rfl) (s_dAI (s_aload_n dlaw_714 rfl rfl) (s_iadd (s_iload_n dlaw_715 rfl rfl) (s_iconst dlaw_716 rfl) dlaw_717) dlaw_718) rfl) (s_dAI (s_aload_n dlaw_719 rfl rfl) (s_iadd (s_iload_n dlaw_720 rfl rfl) (s_iconst dlaw_721 rfl) dlaw_722) dlaw_723) rfl) dlaw_724 w8_182)) dlaw_727 rfl) (t_ret (cv := cvI) (fun _ _ => rfl) (s_iconst dlaw_730 rfl) dlaw_731) (t_skip (ld_in rfl) rfl) lda_nil (lda_cons (ld_in rfl) lda_nil)) (tn_cons (t_brk (ld_in rfl) rfl) tn_nil) (fun _ _ _ _ _ q => by cases q; exact LE.rf _))
noncomputable def Clw_14 : Sm Int32 := (dSeq (dIf (dCI r_ne (dCallV 11 DX11_knows (aI (aI (aI (aR aN 0 (vR 1)) 1 (dAI (vR 0) (d2 o_iadd (vI 3) (cI 1)))) 2 (dAI (vR 0) (d2 o_iadd (vI 3) (cI 2)))) 3 (dAI (vR 0) (d2 o_iadd (vI 3) (cI 3))))) (dCallV 12 DX12_knows (aI (aI (aI (aR aN 0 (vR 2)) 1 (dAI (vR 0) (d2 o_iadd (vI 3) (cI 1)))) 2 (dAI (vR 0) (d2 o_iadd (vI 3) (cI 2)))) 3 (dAI (vR 0) (d2 o_iadd (vI 3) (cI 3)))))) (dRet (cI 0)) dSkip) dBrk)
theorem sClw_14 : SS (cvoI, .ireturn) milaw [(0, 2), (1, 2), (2, 2), (3, 0)] [2340] [] [(0, 2), (1, 2), (2, 2), (3, 0)] [(0, 2), (1, 2), (2, 2), (3, 0)] 732 [2340] Clw_14 := (t_seq (XA := [2340]) (Γ' := [(0, 2), (1, 2), (2, 2), (3, 0)]) (t_if (pT := 773) (pF := 2340) (X := [2340]) (XA := []) (XB := [2340]) (c_ne_F (pF := 2340) (s_of_xI (x_callV (ts := [(0, 2), (1, 0), (2, 0), (3, 0)]) ck11 rfl kX11_knows mokX11_knows w4_176 w4_177 rfl rfl rfl rfl (a_I (ts := [(0, 2), (1, 0), (2, 0)]) 3 (a_I (ts := [(0, 2), (1, 0)]) 2 (a_I (ts := [(0, 2)]) 1 (a_R (ts := []) 0 a_nil (s_aload_n dlaw_732 rfl rfl) rfl) (s_dAI (s_aload_n dlaw_733 rfl rfl) (s_iadd (s_iload_n dlaw_734 rfl rfl) (s_iconst dlaw_735 rfl) dlaw_736) dlaw_737) rfl) (s_dAI (s_aload_n dlaw_738 rfl rfl) (s_iadd (s_iload_n dlaw_739 rfl rfl) (s_iconst dlaw_740 rfl) dlaw_741) dlaw_742) rfl) (s_dAI (s_aload_n dlaw_743 rfl rfl) (s_iadd (s_iload_n dlaw_744 rfl rfl) (s_iconst dlaw_745 rfl) dlaw_746) dlaw_747) rfl) dlaw_748 w4_175)) (s_of_xI (x_callV (ts := [(0, 2), (1, 0), (2, 0), (3, 0)]) ck12 rfl kX12_knows mokX12_knows w8_187 w8_188 rfl rfl rfl rfl (a_I (ts := [(0, 2), (1, 0), (2, 0)]) 3 (a_I (ts := [(0, 2), (1, 0)]) 2 (a_I (ts := [(0, 2)]) 1 (a_R (ts := []) 0 a_nil (s_aload_n dlaw_751 rfl rfl) rfl) (s_dAI (s_aload_n dlaw_752 rfl rfl) (s_iadd (s_iload_n dlaw_753 rfl rfl) (s_iconst dlaw_754 rfl) dlaw_755) dlaw_756) rfl) (s_dAI (s_aload_n dlaw_757 rfl rfl) (s_iadd (s_iload_n dlaw_758 rfl rfl) (s_iconst dlaw_759 rfl) dlaw_760) dlaw_761) rfl) (s_dAI (s_aload_n dlaw_762 rfl rfl) (s_iadd (s_iload_n dlaw_763 rfl rfl) (s_iconst dlaw_764 rfl) dlaw_765) dlaw_766) rfl) dlaw_767 w8_186)) dlaw_770 rfl) (t_ret (cv := cvI) (fun _ _ => rfl) (s_iconst dlaw_773 rfl) dlaw_774) (t_skip (ld_in rfl) rfl) lda_nil (lda_cons (ld_in rfl) lda_nil)) (tn_cons (t_brk (ld_in rfl) rfl) tn_nil) (fun _ _ _ _ _ q => by cases q; exact LE.rf _))
noncomputable def Clw_15 : Sm Int32 := (dSeq (dIf (dCI r_ne (dCallV 11 DX11_heard (aI (aI (aR aN 0 (vR 1)) 1 (dAI (vR 0) (d2 o_iadd (vI 3) (cI 1)))) 2 (dAI (vR 0) (d2 o_iadd (vI 3) (cI 2))))) (dCallV 12 DX12_heard (aI (aI (aR aN 0 (vR 2)) 1 (dAI (vR 0) (d2 o_iadd (vI 3) (cI 1)))) 2 (dAI (vR 0) (d2 o_iadd (vI 3) (cI 2)))))) (dRet (cI 0)) dSkip) dBrk)
theorem sClw_15 : SS (cvoI, .ireturn) milaw [(0, 2), (1, 2), (2, 2), (3, 0)] [2340] [] [(0, 2), (1, 2), (2, 2), (3, 0)] [(0, 2), (1, 2), (2, 2), (3, 0)] 775 [2340] Clw_15 := (t_seq (XA := [2340]) (Γ' := [(0, 2), (1, 2), (2, 2), (3, 0)]) (t_if (pT := 806) (pF := 2340) (X := [2340]) (XA := []) (XB := [2340]) (c_ne_F (pF := 2340) (s_of_xI (x_callV (ts := [(0, 2), (1, 0), (2, 0)]) ck11 rfl kX11_heard mokX11_heard w4_184 w4_185 rfl rfl rfl rfl (a_I (ts := [(0, 2), (1, 0)]) 2 (a_I (ts := [(0, 2)]) 1 (a_R (ts := []) 0 a_nil (s_aload_n dlaw_775 rfl rfl) rfl) (s_dAI (s_aload_n dlaw_776 rfl rfl) (s_iadd (s_iload_n dlaw_777 rfl rfl) (s_iconst dlaw_778 rfl) dlaw_779) dlaw_780) rfl) (s_dAI (s_aload_n dlaw_781 rfl rfl) (s_iadd (s_iload_n dlaw_782 rfl rfl) (s_iconst dlaw_783 rfl) dlaw_784) dlaw_785) rfl) dlaw_786 w4_183)) (s_of_xI (x_callV (ts := [(0, 2), (1, 0), (2, 0)]) ck12 rfl kX12_heard mokX12_heard w8_191 w8_192 rfl rfl rfl rfl (a_I (ts := [(0, 2), (1, 0)]) 2 (a_I (ts := [(0, 2)]) 1 (a_R (ts := []) 0 a_nil (s_aload_n dlaw_789 rfl rfl) rfl) (s_dAI (s_aload_n dlaw_790 rfl rfl) (s_iadd (s_iload_n dlaw_791 rfl rfl) (s_iconst dlaw_792 rfl) dlaw_793) dlaw_794) rfl) (s_dAI (s_aload_n dlaw_795 rfl rfl) (s_iadd (s_iload_n dlaw_796 rfl rfl) (s_iconst dlaw_797 rfl) dlaw_798) dlaw_799) rfl) dlaw_800 w8_190)) dlaw_803 rfl) (t_ret (cv := cvI) (fun _ _ => rfl) (s_iconst dlaw_806 rfl) dlaw_807) (t_skip (ld_in rfl) rfl) lda_nil (lda_cons (ld_in rfl) lda_nil)) (tn_cons (t_brk (ld_in rfl) rfl) tn_nil) (fun _ _ _ _ _ q => by cases q; exact LE.rf _))
noncomputable def Clw_16 : Sm Int32 := (dSeq (dIf (dCI r_ne (dCallV 11 DX11_full (aI (aI (aR aN 0 (vR 1)) 1 (dAI (vR 0) (d2 o_iadd (vI 3) (cI 1)))) 2 (dAI (vR 0) (d2 o_iadd (vI 3) (cI 2))))) (dCallV 12 DX12_full (aI (aI (aR aN 0 (vR 2)) 1 (dAI (vR 0) (d2 o_iadd (vI 3) (cI 1)))) 2 (dAI (vR 0) (d2 o_iadd (vI 3) (cI 2)))))) (dRet (cI 0)) dSkip) dBrk)
theorem sClw_16 : SS (cvoI, .ireturn) milaw [(0, 2), (1, 2), (2, 2), (3, 0)] [2340] [] [(0, 2), (1, 2), (2, 2), (3, 0)] [(0, 2), (1, 2), (2, 2), (3, 0)] 808 [2340] Clw_16 := (t_seq (XA := [2340]) (Γ' := [(0, 2), (1, 2), (2, 2), (3, 0)]) (t_if (pT := 839) (pF := 2340) (X := [2340]) (XA := []) (XB := [2340]) (c_ne_F (pF := 2340) (s_of_xI (x_callV (ts := [(0, 2), (1, 0), (2, 0)]) ck11 rfl kX11_full mokX11_full w4_193 w4_194 rfl rfl rfl rfl (a_I (ts := [(0, 2), (1, 0)]) 2 (a_I (ts := [(0, 2)]) 1 (a_R (ts := []) 0 a_nil (s_aload_n dlaw_808 rfl rfl) rfl) (s_dAI (s_aload_n dlaw_809 rfl rfl) (s_iadd (s_iload_n dlaw_810 rfl rfl) (s_iconst dlaw_811 rfl) dlaw_812) dlaw_813) rfl) (s_dAI (s_aload_n dlaw_814 rfl rfl) (s_iadd (s_iload_n dlaw_815 rfl rfl) (s_iconst dlaw_816 rfl) dlaw_817) dlaw_818) rfl) dlaw_819 w4_192)) (s_of_xI (x_callV (ts := [(0, 2), (1, 0), (2, 0)]) ck12 rfl kX12_full mokX12_full w8_199 w8_200 rfl rfl rfl rfl (a_I (ts := [(0, 2), (1, 0)]) 2 (a_I (ts := [(0, 2)]) 1 (a_R (ts := []) 0 a_nil (s_aload_n dlaw_822 rfl rfl) rfl) (s_dAI (s_aload_n dlaw_823 rfl rfl) (s_iadd (s_iload_n dlaw_824 rfl rfl) (s_iconst dlaw_825 rfl) dlaw_826) dlaw_827) rfl) (s_dAI (s_aload_n dlaw_828 rfl rfl) (s_iadd (s_iload_n dlaw_829 rfl rfl) (s_iconst dlaw_830 rfl) dlaw_831) dlaw_832) rfl) dlaw_833 w8_198)) dlaw_836 rfl) (t_ret (cv := cvI) (fun _ _ => rfl) (s_iconst dlaw_839 rfl) dlaw_840) (t_skip (ld_in rfl) rfl) lda_nil (lda_cons (ld_in rfl) lda_nil)) (tn_cons (t_brk (ld_in rfl) rfl) tn_nil) (fun _ _ _ _ _ q => by cases q; exact LE.rf _))
noncomputable def Clw_17 : Sm Int32 := (dSeq (dIf (dCI r_ne (dCallV 11 DX11_when (aI (aI (aR aN 0 (vR 1)) 1 (dAI (vR 0) (d2 o_iadd (vI 3) (cI 1)))) 2 (dAI (vR 0) (d2 o_iadd (vI 3) (cI 2))))) (dCallV 12 DX12_when (aI (aI (aR aN 0 (vR 2)) 1 (dAI (vR 0) (d2 o_iadd (vI 3) (cI 1)))) 2 (dAI (vR 0) (d2 o_iadd (vI 3) (cI 2)))))) (dRet (cI 0)) dSkip) dBrk)
theorem sClw_17 : SS (cvoI, .ireturn) milaw [(0, 2), (1, 2), (2, 2), (3, 0)] [2340] [] [(0, 2), (1, 2), (2, 2), (3, 0)] [(0, 2), (1, 2), (2, 2), (3, 0)] 841 [2340] Clw_17 := (t_seq (XA := [2340]) (Γ' := [(0, 2), (1, 2), (2, 2), (3, 0)]) (t_if (pT := 872) (pF := 2340) (X := [2340]) (XA := []) (XB := [2340]) (c_ne_F (pF := 2340) (s_of_xI (x_callV (ts := [(0, 2), (1, 0), (2, 0)]) ck11 rfl kX11_when mokX11_when w4_198 w4_199 rfl rfl rfl rfl (a_I (ts := [(0, 2), (1, 0)]) 2 (a_I (ts := [(0, 2)]) 1 (a_R (ts := []) 0 a_nil (s_aload_n dlaw_841 rfl rfl) rfl) (s_dAI (s_aload_n dlaw_842 rfl rfl) (s_iadd (s_iload_n dlaw_843 rfl rfl) (s_iconst dlaw_844 rfl) dlaw_845) dlaw_846) rfl) (s_dAI (s_aload_n dlaw_847 rfl rfl) (s_iadd (s_iload_n dlaw_848 rfl rfl) (s_iconst dlaw_849 rfl) dlaw_850) dlaw_851) rfl) dlaw_852 w4_197)) (s_of_xI (x_callV (ts := [(0, 2), (1, 0), (2, 0)]) ck12 rfl kX12_when mokX12_when w8_203 w8_204 rfl rfl rfl rfl (a_I (ts := [(0, 2), (1, 0)]) 2 (a_I (ts := [(0, 2)]) 1 (a_R (ts := []) 0 a_nil (s_aload_n dlaw_855 rfl rfl) rfl) (s_dAI (s_aload_n dlaw_856 rfl rfl) (s_iadd (s_iload_n dlaw_857 rfl rfl) (s_iconst dlaw_858 rfl) dlaw_859) dlaw_860) rfl) (s_dAI (s_aload_n dlaw_861 rfl rfl) (s_iadd (s_iload_n dlaw_862 rfl rfl) (s_iconst dlaw_863 rfl) dlaw_864) dlaw_865) rfl) dlaw_866 w8_202)) dlaw_869 rfl) (t_ret (cv := cvI) (fun _ _ => rfl) (s_iconst dlaw_872 rfl) dlaw_873) (t_skip (ld_in rfl) rfl) lda_nil (lda_cons (ld_in rfl) lda_nil)) (tn_cons (t_brk (ld_in rfl) rfl) tn_nil) (fun _ _ _ _ _ q => by cases q; exact LE.rf _))
noncomputable def Clw_18 : Sm Int32 := (dSeq (dIf (dCI r_ne (dCallV 11 DX11_done (aI (aR aN 0 (vR 1)) 1 (dAI (vR 0) (d2 o_iadd (vI 3) (cI 1))))) (dCallV 12 DX12_done (aI (aR aN 0 (vR 2)) 1 (dAI (vR 0) (d2 o_iadd (vI 3) (cI 1)))))) (dRet (cI 0)) dSkip) dBrk)
theorem sClw_18 : SS (cvoI, .ireturn) milaw [(0, 2), (1, 2), (2, 2), (3, 0)] [2340] [] [(0, 2), (1, 2), (2, 2), (3, 0)] [(0, 2), (1, 2), (2, 2), (3, 0)] 874 [2340] Clw_18 := (t_seq (XA := [2340]) (Γ' := [(0, 2), (1, 2), (2, 2), (3, 0)]) (t_if (pT := 895) (pF := 2340) (X := [2340]) (XA := []) (XB := [2340]) (c_ne_F (pF := 2340) (s_of_xI (x_callV (ts := [(0, 2), (1, 0)]) ck11 rfl kX11_done mokX11_done w4_202 w4_203 rfl rfl rfl rfl (a_I (ts := [(0, 2)]) 1 (a_R (ts := []) 0 a_nil (s_aload_n dlaw_874 rfl rfl) rfl) (s_dAI (s_aload_n dlaw_875 rfl rfl) (s_iadd (s_iload_n dlaw_876 rfl rfl) (s_iconst dlaw_877 rfl) dlaw_878) dlaw_879) rfl) dlaw_880 w4_201)) (s_of_xI (x_callV (ts := [(0, 2), (1, 0)]) ck12 rfl kX12_done mokX12_done w8_207 w8_208 rfl rfl rfl rfl (a_I (ts := [(0, 2)]) 1 (a_R (ts := []) 0 a_nil (s_aload_n dlaw_883 rfl rfl) rfl) (s_dAI (s_aload_n dlaw_884 rfl rfl) (s_iadd (s_iload_n dlaw_885 rfl rfl) (s_iconst dlaw_886 rfl) dlaw_887) dlaw_888) rfl) dlaw_889 w8_206)) dlaw_892 rfl) (t_ret (cv := cvI) (fun _ _ => rfl) (s_iconst dlaw_895 rfl) dlaw_896) (t_skip (ld_in rfl) rfl) lda_nil (lda_cons (ld_in rfl) lda_nil)) (tn_cons (t_brk (ld_in rfl) rfl) tn_nil) (fun _ _ _ _ _ q => by cases q; exact LE.rf _))
noncomputable def Clw_19 : Sm Int32 := (dSeq (dIf (dCI r_ne (dCallV 11 DX11_dones (aR aN 0 (vR 1))) (dCallV 12 DX12_dones (aR aN 0 (vR 2)))) (dRet (cI 0)) dSkip) dBrk)
theorem sClw_19 : SS (cvoI, .ireturn) milaw [(0, 2), (1, 2), (2, 2), (3, 0)] [2340] [] [(0, 2), (1, 2), (2, 2), (3, 0)] [(0, 2), (1, 2), (2, 2), (3, 0)] 897 [2340] Clw_19 := (t_seq (XA := [2340]) (Γ' := [(0, 2), (1, 2), (2, 2), (3, 0)]) (t_if (pT := 908) (pF := 2340) (X := [2340]) (XA := []) (XB := [2340]) (c_ne_F (pF := 2340) (s_of_xI (x_callV (ts := [(0, 2)]) ck11 rfl kX11_dones mokX11_dones w4_214 w4_215 rfl rfl rfl rfl (a_R (ts := []) 0 a_nil (s_aload_n dlaw_897 rfl rfl) rfl) dlaw_898 w4_213)) (s_of_xI (x_callV (ts := [(0, 2)]) ck12 rfl kX12_dones mokX12_dones w8_215 w8_216 rfl rfl rfl rfl (a_R (ts := []) 0 a_nil (s_aload_n dlaw_901 rfl rfl) rfl) dlaw_902 w8_214)) dlaw_905 rfl) (t_ret (cv := cvI) (fun _ _ => rfl) (s_iconst dlaw_908 rfl) dlaw_909) (t_skip (ld_in rfl) rfl) lda_nil (lda_cons (ld_in rfl) lda_nil)) (tn_cons (t_brk (ld_in rfl) rfl) tn_nil) (fun _ _ _ _ _ q => by cases q; exact LE.rf _))
noncomputable def Clw_20 : Sm Int32 := (dSeq (dIf (dCI r_ne (dCallV 11 DX11_why (aI (aR aN 0 (vR 1)) 1 (dAI (vR 0) (d2 o_iadd (vI 3) (cI 1))))) (dCallV 12 DX12_why (aI (aR aN 0 (vR 2)) 1 (dAI (vR 0) (d2 o_iadd (vI 3) (cI 1)))))) (dRet (cI 0)) dSkip) dBrk)
theorem sClw_20 : SS (cvoI, .ireturn) milaw [(0, 2), (1, 2), (2, 2), (3, 0)] [2340] [] [(0, 2), (1, 2), (2, 2), (3, 0)] [(0, 2), (1, 2), (2, 2), (3, 0)] 910 [2340] Clw_20 := (t_seq (XA := [2340]) (Γ' := [(0, 2), (1, 2), (2, 2), (3, 0)]) (t_if (pT := 931) (pF := 2340) (X := [2340]) (XA := []) (XB := [2340]) (c_ne_F (pF := 2340) (s_of_xI (x_callV (ts := [(0, 2), (1, 0)]) ck11 rfl kX11_why mokX11_why w4_219 w4_220 rfl rfl rfl rfl (a_I (ts := [(0, 2)]) 1 (a_R (ts := []) 0 a_nil (s_aload_n dlaw_910 rfl rfl) rfl) (s_dAI (s_aload_n dlaw_911 rfl rfl) (s_iadd (s_iload_n dlaw_912 rfl rfl) (s_iconst dlaw_913 rfl) dlaw_914) dlaw_915) rfl) dlaw_916 w4_218)) (s_of_xI (x_callV (ts := [(0, 2), (1, 0)]) ck12 rfl kX12_why mokX12_why w8_219 w8_220 rfl rfl rfl rfl (a_I (ts := [(0, 2)]) 1 (a_R (ts := []) 0 a_nil (s_aload_n dlaw_919 rfl rfl) rfl) (s_dAI (s_aload_n dlaw_920 rfl rfl) (s_iadd (s_iload_n dlaw_921 rfl rfl) (s_iconst dlaw_922 rfl) dlaw_923) dlaw_924) rfl) dlaw_925 w8_218)) dlaw_928 rfl) (t_ret (cv := cvI) (fun _ _ => rfl) (s_iconst dlaw_931 rfl) dlaw_932) (t_skip (ld_in rfl) rfl) lda_nil (lda_cons (ld_in rfl) lda_nil)) (tn_cons (t_brk (ld_in rfl) rfl) tn_nil) (fun _ _ _ _ _ q => by cases q; exact LE.rf _))
noncomputable def Clw_21 : Sm Int32 := (dSeq (dIf (dCI r_ne (dCallV 11 DX11_load (aI (aR aN 0 (vR 1)) 1 (dAI (vR 0) (d2 o_iadd (vI 3) (cI 1))))) (dCallV 12 DX12_load (aI (aR aN 0 (vR 2)) 1 (dAI (vR 0) (d2 o_iadd (vI 3) (cI 1)))))) (dRet (cI 0)) dSkip) dBrk)
theorem sClw_21 : SS (cvoI, .ireturn) milaw [(0, 2), (1, 2), (2, 2), (3, 0)] [2340] [] [(0, 2), (1, 2), (2, 2), (3, 0)] [(0, 2), (1, 2), (2, 2), (3, 0)] 933 [2340] Clw_21 := (t_seq (XA := [2340]) (Γ' := [(0, 2), (1, 2), (2, 2), (3, 0)]) (t_if (pT := 954) (pF := 2340) (X := [2340]) (XA := []) (XB := [2340]) (c_ne_F (pF := 2340) (s_of_xI (x_callV (ts := [(0, 2), (1, 0)]) ck11 rfl kX11_load mokX11_load w4_223 w4_224 rfl rfl rfl rfl (a_I (ts := [(0, 2)]) 1 (a_R (ts := []) 0 a_nil (s_aload_n dlaw_933 rfl rfl) rfl) (s_dAI (s_aload_n dlaw_934 rfl rfl) (s_iadd (s_iload_n dlaw_935 rfl rfl) (s_iconst dlaw_936 rfl) dlaw_937) dlaw_938) rfl) dlaw_939 w4_222)) (s_of_xI (x_callV (ts := [(0, 2), (1, 0)]) ck12 rfl kX12_load mokX12_load w8_223 w8_224 rfl rfl rfl rfl (a_I (ts := [(0, 2)]) 1 (a_R (ts := []) 0 a_nil (s_aload_n dlaw_942 rfl rfl) rfl) (s_dAI (s_aload_n dlaw_943 rfl rfl) (s_iadd (s_iload_n dlaw_944 rfl rfl) (s_iconst dlaw_945 rfl) dlaw_946) dlaw_947) rfl) dlaw_948 w8_222)) dlaw_951 rfl) (t_ret (cv := cvI) (fun _ _ => rfl) (s_iconst dlaw_954 rfl) dlaw_955) (t_skip (ld_in rfl) rfl) lda_nil (lda_cons (ld_in rfl) lda_nil)) (tn_cons (t_brk (ld_in rfl) rfl) tn_nil) (fun _ _ _ _ _ q => by cases q; exact LE.rf _))
noncomputable def Clw_22 : Sm Int32 := (dSeq (dIf (dCI r_ne (dCallV 11 DX11_idle (aI (aR aN 0 (vR 1)) 1 (dAI (vR 0) (d2 o_iadd (vI 3) (cI 1))))) (dCallV 12 DX12_idle (aI (aR aN 0 (vR 2)) 1 (dAI (vR 0) (d2 o_iadd (vI 3) (cI 1)))))) (dRet (cI 0)) dSkip) dBrk)
theorem sClw_22 : SS (cvoI, .ireturn) milaw [(0, 2), (1, 2), (2, 2), (3, 0)] [2340] [] [(0, 2), (1, 2), (2, 2), (3, 0)] [(0, 2), (1, 2), (2, 2), (3, 0)] 956 [2340] Clw_22 := (t_seq (XA := [2340]) (Γ' := [(0, 2), (1, 2), (2, 2), (3, 0)]) (t_if (pT := 977) (pF := 2340) (X := [2340]) (XA := []) (XB := [2340]) (c_ne_F (pF := 2340) (s_of_xI (x_callV (ts := [(0, 2), (1, 0)]) ck11 rfl kX11_idle mokX11_idle w4_231 w4_232 rfl rfl rfl rfl (a_I (ts := [(0, 2)]) 1 (a_R (ts := []) 0 a_nil (s_aload_n dlaw_956 rfl rfl) rfl) (s_dAI (s_aload_n dlaw_957 rfl rfl) (s_iadd (s_iload_n dlaw_958 rfl rfl) (s_iconst dlaw_959 rfl) dlaw_960) dlaw_961) rfl) dlaw_962 w4_230)) (s_of_xI (x_callV (ts := [(0, 2), (1, 0)]) ck12 rfl kX12_idle mokX12_idle w8_227 w8_228 rfl rfl rfl rfl (a_I (ts := [(0, 2)]) 1 (a_R (ts := []) 0 a_nil (s_aload_n dlaw_965 rfl rfl) rfl) (s_dAI (s_aload_n dlaw_966 rfl rfl) (s_iadd (s_iload_n dlaw_967 rfl rfl) (s_iconst dlaw_968 rfl) dlaw_969) dlaw_970) rfl) dlaw_971 w8_226)) dlaw_974 rfl) (t_ret (cv := cvI) (fun _ _ => rfl) (s_iconst dlaw_977 rfl) dlaw_978) (t_skip (ld_in rfl) rfl) lda_nil (lda_cons (ld_in rfl) lda_nil)) (tn_cons (t_brk (ld_in rfl) rfl) tn_nil) (fun _ _ _ _ _ q => by cases q; exact LE.rf _))
noncomputable def Clw_23 : Sm Int32 := (dSeq (dIf (dCI r_ne (dCallV 11 DX11_moves (aI (aR aN 0 (vR 1)) 1 (dAI (vR 0) (d2 o_iadd (vI 3) (cI 1))))) (dCallV 12 DX12_moves (aI (aR aN 0 (vR 2)) 1 (dAI (vR 0) (d2 o_iadd (vI 3) (cI 1)))))) (dRet (cI 0)) dSkip) dBrk)
theorem sClw_23 : SS (cvoI, .ireturn) milaw [(0, 2), (1, 2), (2, 2), (3, 0)] [2340] [] [(0, 2), (1, 2), (2, 2), (3, 0)] [(0, 2), (1, 2), (2, 2), (3, 0)] 979 [2340] Clw_23 := (t_seq (XA := [2340]) (Γ' := [(0, 2), (1, 2), (2, 2), (3, 0)]) (t_if (pT := 1000) (pF := 2340) (X := [2340]) (XA := []) (XB := [2340]) (c_ne_F (pF := 2340) (s_of_xI (x_callV (ts := [(0, 2), (1, 0)]) ck11 rfl kX11_moves mokX11_moves w5_7 w5_8 rfl rfl rfl rfl (a_I (ts := [(0, 2)]) 1 (a_R (ts := []) 0 a_nil (s_aload_n dlaw_979 rfl rfl) rfl) (s_dAI (s_aload_n dlaw_980 rfl rfl) (s_iadd (s_iload_n dlaw_981 rfl rfl) (s_iconst dlaw_982 rfl) dlaw_983) dlaw_984) rfl) dlaw_985 w5_6)) (s_of_xI (x_callV (ts := [(0, 2), (1, 0)]) ck12 rfl kX12_moves mokX12_moves w8_235 w8_236 rfl rfl rfl rfl (a_I (ts := [(0, 2)]) 1 (a_R (ts := []) 0 a_nil (s_aload_n dlaw_988 rfl rfl) rfl) (s_dAI (s_aload_n dlaw_989 rfl rfl) (s_iadd (s_iload_n dlaw_990 rfl rfl) (s_iconst dlaw_991 rfl) dlaw_992) dlaw_993) rfl) dlaw_994 w8_234)) dlaw_997 rfl) (t_ret (cv := cvI) (fun _ _ => rfl) (s_iconst dlaw_1000 rfl) dlaw_1001) (t_skip (ld_in rfl) rfl) lda_nil (lda_cons (ld_in rfl) lda_nil)) (tn_cons (t_brk (ld_in rfl) rfl) tn_nil) (fun _ _ _ _ _ q => by cases q; exact LE.rf _))
noncomputable def Clw_24 : Sm Int32 := (dSeq (dIf (dCI r_ne (dCallV 11 DX11_trips (aI (aR aN 0 (vR 1)) 1 (dAI (vR 0) (d2 o_iadd (vI 3) (cI 1))))) (dCallV 12 DX12_trips (aI (aR aN 0 (vR 2)) 1 (dAI (vR 0) (d2 o_iadd (vI 3) (cI 1)))))) (dRet (cI 0)) dSkip) dBrk)
theorem sClw_24 : SS (cvoI, .ireturn) milaw [(0, 2), (1, 2), (2, 2), (3, 0)] [2340] [] [(0, 2), (1, 2), (2, 2), (3, 0)] [(0, 2), (1, 2), (2, 2), (3, 0)] 1002 [2340] Clw_24 := (t_seq (XA := [2340]) (Γ' := [(0, 2), (1, 2), (2, 2), (3, 0)]) (t_if (pT := 1023) (pF := 2340) (X := [2340]) (XA := []) (XB := [2340]) (c_ne_F (pF := 2340) (s_of_xI (x_callV (ts := [(0, 2), (1, 0)]) ck11 rfl kX11_trips mokX11_trips w5_16 w5_17 rfl rfl rfl rfl (a_I (ts := [(0, 2)]) 1 (a_R (ts := []) 0 a_nil (s_aload_n dlaw_1002 rfl rfl) rfl) (s_dAI (s_aload_n dlaw_1003 rfl rfl) (s_iadd (s_iload_n dlaw_1004 rfl rfl) (s_iconst dlaw_1005 rfl) dlaw_1006) dlaw_1007) rfl) dlaw_1008 w5_15)) (s_of_xI (x_callV (ts := [(0, 2), (1, 0)]) ck12 rfl kX12_trips mokX12_trips w8_239 w9_0 rfl rfl rfl rfl (a_I (ts := [(0, 2)]) 1 (a_R (ts := []) 0 a_nil (s_aload_n dlaw_1011 rfl rfl) rfl) (s_dAI (s_aload_n dlaw_1012 rfl rfl) (s_iadd (s_iload_n dlaw_1013 rfl rfl) (s_iconst dlaw_1014 rfl) dlaw_1015) dlaw_1016) rfl) dlaw_1017 w8_238)) dlaw_1020 rfl) (t_ret (cv := cvI) (fun _ _ => rfl) (s_iconst dlaw_1023 rfl) dlaw_1024) (t_skip (ld_in rfl) rfl) lda_nil (lda_cons (ld_in rfl) lda_nil)) (tn_cons (t_brk (ld_in rfl) rfl) tn_nil) (fun _ _ _ _ _ q => by cases q; exact LE.rf _))
noncomputable def Clw_25 : Sm Int32 := (dSeq (dIf (dCI r_ne (dCallV 11 DX11_toil (aI (aR aN 0 (vR 1)) 1 (dAI (vR 0) (d2 o_iadd (vI 3) (cI 1))))) (dCallV 12 DX12_toil (aI (aR aN 0 (vR 2)) 1 (dAI (vR 0) (d2 o_iadd (vI 3) (cI 1)))))) (dRet (cI 0)) dSkip) dBrk)
theorem sClw_25 : SS (cvoI, .ireturn) milaw [(0, 2), (1, 2), (2, 2), (3, 0)] [2340] [] [(0, 2), (1, 2), (2, 2), (3, 0)] [(0, 2), (1, 2), (2, 2), (3, 0)] 1025 [2340] Clw_25 := (t_seq (XA := [2340]) (Γ' := [(0, 2), (1, 2), (2, 2), (3, 0)]) (t_if (pT := 1046) (pF := 2340) (X := [2340]) (XA := []) (XB := [2340]) (c_ne_F (pF := 2340) (s_of_xI (x_callV (ts := [(0, 2), (1, 0)]) ck11 rfl kX11_toil mokX11_toil w5_20 w5_21 rfl rfl rfl rfl (a_I (ts := [(0, 2)]) 1 (a_R (ts := []) 0 a_nil (s_aload_n dlaw_1025 rfl rfl) rfl) (s_dAI (s_aload_n dlaw_1026 rfl rfl) (s_iadd (s_iload_n dlaw_1027 rfl rfl) (s_iconst dlaw_1028 rfl) dlaw_1029) dlaw_1030) rfl) dlaw_1031 w5_19)) (s_of_xI (x_callV (ts := [(0, 2), (1, 0)]) ck12 rfl kX12_toil mokX12_toil w9_3 w9_4 rfl rfl rfl rfl (a_I (ts := [(0, 2)]) 1 (a_R (ts := []) 0 a_nil (s_aload_n dlaw_1034 rfl rfl) rfl) (s_dAI (s_aload_n dlaw_1035 rfl rfl) (s_iadd (s_iload_n dlaw_1036 rfl rfl) (s_iconst dlaw_1037 rfl) dlaw_1038) dlaw_1039) rfl) dlaw_1040 w9_2)) dlaw_1043 rfl) (t_ret (cv := cvI) (fun _ _ => rfl) (s_iconst dlaw_1046 rfl) dlaw_1047) (t_skip (ld_in rfl) rfl) lda_nil (lda_cons (ld_in rfl) lda_nil)) (tn_cons (t_brk (ld_in rfl) rfl) tn_nil) (fun _ _ _ _ _ q => by cases q; exact LE.rf _))
noncomputable def Clw_26 : Sm Int32 := (dSeq (dIf (dCI r_ne (dCallV 11 DX11_rubbed (aI (aR aN 0 (vR 1)) 1 (dAI (vR 0) (d2 o_iadd (vI 3) (cI 1))))) (dCallV 12 DX12_rubbed (aI (aR aN 0 (vR 2)) 1 (dAI (vR 0) (d2 o_iadd (vI 3) (cI 1)))))) (dRet (cI 0)) dSkip) dBrk)
theorem sClw_26 : SS (cvoI, .ireturn) milaw [(0, 2), (1, 2), (2, 2), (3, 0)] [2340] [] [(0, 2), (1, 2), (2, 2), (3, 0)] [(0, 2), (1, 2), (2, 2), (3, 0)] 1048 [2340] Clw_26 := (t_seq (XA := [2340]) (Γ' := [(0, 2), (1, 2), (2, 2), (3, 0)]) (t_if (pT := 1069) (pF := 2340) (X := [2340]) (XA := []) (XB := [2340]) (c_ne_F (pF := 2340) (s_of_xI (x_callV (ts := [(0, 2), (1, 0)]) ck11 rfl kX11_rubbed mokX11_rubbed w5_24 w5_25 rfl rfl rfl rfl (a_I (ts := [(0, 2)]) 1 (a_R (ts := []) 0 a_nil (s_aload_n dlaw_1048 rfl rfl) rfl) (s_dAI (s_aload_n dlaw_1049 rfl rfl) (s_iadd (s_iload_n dlaw_1050 rfl rfl) (s_iconst dlaw_1051 rfl) dlaw_1052) dlaw_1053) rfl) dlaw_1054 w5_23)) (s_of_xI (x_callV (ts := [(0, 2), (1, 0)]) ck12 rfl kX12_rubbed mokX12_rubbed w9_7 w9_8 rfl rfl rfl rfl (a_I (ts := [(0, 2)]) 1 (a_R (ts := []) 0 a_nil (s_aload_n dlaw_1057 rfl rfl) rfl) (s_dAI (s_aload_n dlaw_1058 rfl rfl) (s_iadd (s_iload_n dlaw_1059 rfl rfl) (s_iconst dlaw_1060 rfl) dlaw_1061) dlaw_1062) rfl) dlaw_1063 w9_6)) dlaw_1066 rfl) (t_ret (cv := cvI) (fun _ _ => rfl) (s_iconst dlaw_1069 rfl) dlaw_1070) (t_skip (ld_in rfl) rfl) lda_nil (lda_cons (ld_in rfl) lda_nil)) (tn_cons (t_brk (ld_in rfl) rfl) tn_nil) (fun _ _ _ _ _ q => by cases q; exact LE.rf _))
noncomputable def Clw_27 : Sm Int32 := (dSeq (dIf (dCI r_ne (dCallV 11 DX11_gossip (aR aN 0 (vR 1))) (dCallV 12 DX12_gossip (aR aN 0 (vR 2)))) (dRet (cI 0)) dSkip) dBrk)
theorem sClw_27 : SS (cvoI, .ireturn) milaw [(0, 2), (1, 2), (2, 2), (3, 0)] [2340] [] [(0, 2), (1, 2), (2, 2), (3, 0)] [(0, 2), (1, 2), (2, 2), (3, 0)] 1071 [2340] Clw_27 := (t_seq (XA := [2340]) (Γ' := [(0, 2), (1, 2), (2, 2), (3, 0)]) (t_if (pT := 1082) (pF := 2340) (X := [2340]) (XA := []) (XB := [2340]) (c_ne_F (pF := 2340) (s_of_xI (x_callV (ts := [(0, 2)]) ck11 rfl kX11_gossip mokX11_gossip w5_34 w5_35 rfl rfl rfl rfl (a_R (ts := []) 0 a_nil (s_aload_n dlaw_1071 rfl rfl) rfl) dlaw_1072 w5_33)) (s_of_xI (x_callV (ts := [(0, 2)]) ck12 rfl kX12_gossip mokX12_gossip w9_14 w9_15 rfl rfl rfl rfl (a_R (ts := []) 0 a_nil (s_aload_n dlaw_1075 rfl rfl) rfl) dlaw_1076 w9_13)) dlaw_1079 rfl) (t_ret (cv := cvI) (fun _ _ => rfl) (s_iconst dlaw_1082 rfl) dlaw_1083) (t_skip (ld_in rfl) rfl) lda_nil (lda_cons (ld_in rfl) lda_nil)) (tn_cons (t_brk (ld_in rfl) rfl) tn_nil) (fun _ _ _ _ _ q => by cases q; exact LE.rf _))
noncomputable def Clw_28 : Sm Int32 := (dSeq (dIf (dCI r_ne (dCallV 11 DX11_famous (aR aN 0 (vR 1))) (dCallV 12 DX12_famous (aR aN 0 (vR 2)))) (dRet (cI 0)) dSkip) dBrk)
theorem sClw_28 : SS (cvoI, .ireturn) milaw [(0, 2), (1, 2), (2, 2), (3, 0)] [2340] [] [(0, 2), (1, 2), (2, 2), (3, 0)] [(0, 2), (1, 2), (2, 2), (3, 0)] 1084 [2340] Clw_28 := (t_seq (XA := [2340]) (Γ' := [(0, 2), (1, 2), (2, 2), (3, 0)]) (t_if (pT := 1095) (pF := 2340) (X := [2340]) (XA := []) (XB := [2340]) (c_ne_F (pF := 2340) (s_of_xI (x_callV (ts := [(0, 2)]) ck11 rfl kX11_famous mokX11_famous w5_38 w5_39 rfl rfl rfl rfl (a_R (ts := []) 0 a_nil (s_aload_n dlaw_1084 rfl rfl) rfl) dlaw_1085 w5_37)) (s_of_xI (x_callV (ts := [(0, 2)]) ck12 rfl kX12_famous mokX12_famous w9_22 w9_23 rfl rfl rfl rfl (a_R (ts := []) 0 a_nil (s_aload_n dlaw_1088 rfl rfl) rfl) dlaw_1089 w9_21)) dlaw_1092 rfl) (t_ret (cv := cvI) (fun _ _ => rfl) (s_iconst dlaw_1095 rfl) dlaw_1096) (t_skip (ld_in rfl) rfl) lda_nil (lda_cons (ld_in rfl) lda_nil)) (tn_cons (t_brk (ld_in rfl) rfl) tn_nil) (fun _ _ _ _ _ q => by cases q; exact LE.rf _))
noncomputable def Clw_29 : Sm Int32 := (dSeq (dIf (dCI r_ne (dCallV 11 DX11_brings (aI (aI (aI (aR aN 0 (vR 1)) 1 (dAI (vR 0) (d2 o_iadd (vI 3) (cI 1)))) 2 (dAI (vR 0) (d2 o_iadd (vI 3) (cI 2)))) 3 (dAI (vR 0) (d2 o_iadd (vI 3) (cI 3))))) (dCallV 12 DX12_brings (aI (aI (aI (aR aN 0 (vR 2)) 1 (dAI (vR 0) (d2 o_iadd (vI 3) (cI 1)))) 2 (dAI (vR 0) (d2 o_iadd (vI 3) (cI 2)))) 3 (dAI (vR 0) (d2 o_iadd (vI 3) (cI 3)))))) (dRet (cI 0)) dSkip) dBrk)
theorem sClw_29 : SS (cvoI, .ireturn) milaw [(0, 2), (1, 2), (2, 2), (3, 0)] [2340] [] [(0, 2), (1, 2), (2, 2), (3, 0)] [(0, 2), (1, 2), (2, 2), (3, 0)] 1097 [2340] Clw_29 := (t_seq (XA := [2340]) (Γ' := [(0, 2), (1, 2), (2, 2), (3, 0)]) (t_if (pT := 1138) (pF := 2340) (X := [2340]) (XA := []) (XB := [2340]) (c_ne_F (pF := 2340) (s_of_xI (x_callV (ts := [(0, 2), (1, 0), (2, 0), (3, 0)]) ck11 rfl kX11_brings mokX11_brings w5_42 w5_43 rfl rfl rfl rfl (a_I (ts := [(0, 2), (1, 0), (2, 0)]) 3 (a_I (ts := [(0, 2), (1, 0)]) 2 (a_I (ts := [(0, 2)]) 1 (a_R (ts := []) 0 a_nil (s_aload_n dlaw_1097 rfl rfl) rfl) (s_dAI (s_aload_n dlaw_1098 rfl rfl) (s_iadd (s_iload_n dlaw_1099 rfl rfl) (s_iconst dlaw_1100 rfl) dlaw_1101) dlaw_1102) rfl) (s_dAI (s_aload_n dlaw_1103 rfl rfl) (s_iadd (s_iload_n dlaw_1104 rfl rfl) (s_iconst dlaw_1105 rfl) dlaw_1106) dlaw_1107) rfl) (s_dAI (s_aload_n dlaw_1108 rfl rfl) (s_iadd (s_iload_n dlaw_1109 rfl rfl) (s_iconst dlaw_1110 rfl) dlaw_1111) dlaw_1112) rfl) dlaw_1113 w5_41)) (s_of_xI (x_callV (ts := [(0, 2), (1, 0), (2, 0), (3, 0)]) ck12 rfl kX12_brings mokX12_brings w9_26 w9_27 rfl rfl rfl rfl (a_I (ts := [(0, 2), (1, 0), (2, 0)]) 3 (a_I (ts := [(0, 2), (1, 0)]) 2 (a_I (ts := [(0, 2)]) 1 (a_R (ts := []) 0 a_nil (s_aload_n dlaw_1116 rfl rfl) rfl) (s_dAI (s_aload_n dlaw_1117 rfl rfl) (s_iadd (s_iload_n dlaw_1118 rfl rfl) (s_iconst dlaw_1119 rfl) dlaw_1120) dlaw_1121) rfl) (s_dAI (s_aload_n dlaw_1122 rfl rfl) (s_iadd (s_iload_n dlaw_1123 rfl rfl) (s_iconst dlaw_1124 rfl) dlaw_1125) dlaw_1126) rfl) (s_dAI (s_aload_n dlaw_1127 rfl rfl) (s_iadd (s_iload_n dlaw_1128 rfl rfl) (s_iconst dlaw_1129 rfl) dlaw_1130) dlaw_1131) rfl) dlaw_1132 w9_25)) dlaw_1135 rfl) (t_ret (cv := cvI) (fun _ _ => rfl) (s_iconst dlaw_1138 rfl) dlaw_1139) (t_skip (ld_in rfl) rfl) lda_nil (lda_cons (ld_in rfl) lda_nil)) (tn_cons (t_brk (ld_in rfl) rfl) tn_nil) (fun _ _ _ _ _ q => by cases q; exact LE.rf _))
noncomputable def Clw_30 : Sm Int32 := (dSeq (dIf (dCI r_ne (dCallV 11 DX11_saves (aI (aI (aI (aR aN 0 (vR 1)) 1 (dAI (vR 0) (d2 o_iadd (vI 3) (cI 1)))) 2 (dAI (vR 0) (d2 o_iadd (vI 3) (cI 2)))) 3 (dAI (vR 0) (d2 o_iadd (vI 3) (cI 3))))) (dCallV 12 DX12_saves (aI (aI (aI (aR aN 0 (vR 2)) 1 (dAI (vR 0) (d2 o_iadd (vI 3) (cI 1)))) 2 (dAI (vR 0) (d2 o_iadd (vI 3) (cI 2)))) 3 (dAI (vR 0) (d2 o_iadd (vI 3) (cI 3)))))) (dRet (cI 0)) dSkip) dBrk)
theorem sClw_30 : SS (cvoI, .ireturn) milaw [(0, 2), (1, 2), (2, 2), (3, 0)] [2340] [] [(0, 2), (1, 2), (2, 2), (3, 0)] [(0, 2), (1, 2), (2, 2), (3, 0)] 1140 [2340] Clw_30 := (t_seq (XA := [2340]) (Γ' := [(0, 2), (1, 2), (2, 2), (3, 0)]) (t_if (pT := 1181) (pF := 2340) (X := [2340]) (XA := []) (XB := [2340]) (c_ne_F (pF := 2340) (s_of_xI (x_callV (ts := [(0, 2), (1, 0), (2, 0), (3, 0)]) ck11 rfl kX11_saves mokX11_saves w5_87 w5_88 rfl rfl rfl rfl (a_I (ts := [(0, 2), (1, 0), (2, 0)]) 3 (a_I (ts := [(0, 2), (1, 0)]) 2 (a_I (ts := [(0, 2)]) 1 (a_R (ts := []) 0 a_nil (s_aload_n dlaw_1140 rfl rfl) rfl) (s_dAI (s_aload_n dlaw_1141 rfl rfl) (s_iadd (s_iload_n dlaw_1142 rfl rfl) (s_iconst dlaw_1143 rfl) dlaw_1144) dlaw_1145) rfl) (s_dAI (s_aload_n dlaw_1146 rfl rfl) (s_iadd (s_iload_n dlaw_1147 rfl rfl) (s_iconst dlaw_1148 rfl) dlaw_1149) dlaw_1150) rfl) (s_dAI (s_aload_n dlaw_1151 rfl rfl) (s_iadd (s_iload_n dlaw_1152 rfl rfl) (s_iconst dlaw_1153 rfl) dlaw_1154) dlaw_1155) rfl) dlaw_1156 w5_86)) (s_of_xI (x_callV (ts := [(0, 2), (1, 0), (2, 0), (3, 0)]) ck12 rfl kX12_saves mokX12_saves w9_50 w9_51 rfl rfl rfl rfl (a_I (ts := [(0, 2), (1, 0), (2, 0)]) 3 (a_I (ts := [(0, 2), (1, 0)]) 2 (a_I (ts := [(0, 2)]) 1 (a_R (ts := []) 0 a_nil (s_aload_n dlaw_1159 rfl rfl) rfl) (s_dAI (s_aload_n dlaw_1160 rfl rfl) (s_iadd (s_iload_n dlaw_1161 rfl rfl) (s_iconst dlaw_1162 rfl) dlaw_1163) dlaw_1164) rfl) (s_dAI (s_aload_n dlaw_1165 rfl rfl) (s_iadd (s_iload_n dlaw_1166 rfl rfl) (s_iconst dlaw_1167 rfl) dlaw_1168) dlaw_1169) rfl) (s_dAI (s_aload_n dlaw_1170 rfl rfl) (s_iadd (s_iload_n dlaw_1171 rfl rfl) (s_iconst dlaw_1172 rfl) dlaw_1173) dlaw_1174) rfl) dlaw_1175 w9_49)) dlaw_1178 rfl) (t_ret (cv := cvI) (fun _ _ => rfl) (s_iconst dlaw_1181 rfl) dlaw_1182) (t_skip (ld_in rfl) rfl) lda_nil (lda_cons (ld_in rfl) lda_nil)) (tn_cons (t_brk (ld_in rfl) rfl) tn_nil) (fun _ _ _ _ _ q => by cases q; exact LE.rf _))
noncomputable def Clw_31 : Sm Int32 := (dSeq (dIf (dCI r_ne (dCallV 11 DX11_can (aI (aI (aR aN 0 (vR 1)) 1 (dAI (vR 0) (d2 o_iadd (vI 3) (cI 1)))) 2 (dAI (vR 0) (d2 o_iadd (vI 3) (cI 2))))) (dCallV 12 DX12_can (aI (aI (aR aN 0 (vR 2)) 1 (dAI (vR 0) (d2 o_iadd (vI 3) (cI 1)))) 2 (dAI (vR 0) (d2 o_iadd (vI 3) (cI 2)))))) (dRet (cI 0)) dSkip) dBrk)
theorem sClw_31 : SS (cvoI, .ireturn) milaw [(0, 2), (1, 2), (2, 2), (3, 0)] [2340] [] [(0, 2), (1, 2), (2, 2), (3, 0)] [(0, 2), (1, 2), (2, 2), (3, 0)] 1183 [2340] Clw_31 := (t_seq (XA := [2340]) (Γ' := [(0, 2), (1, 2), (2, 2), (3, 0)]) (t_if (pT := 1214) (pF := 2340) (X := [2340]) (XA := []) (XB := [2340]) (c_ne_F (pF := 2340) (s_of_xI (x_callV (ts := [(0, 2), (1, 0), (2, 0)]) ck11 rfl kX11_can mokX11_can w5_91 w5_92 rfl rfl rfl rfl (a_I (ts := [(0, 2), (1, 0)]) 2 (a_I (ts := [(0, 2)]) 1 (a_R (ts := []) 0 a_nil (s_aload_n dlaw_1183 rfl rfl) rfl) (s_dAI (s_aload_n dlaw_1184 rfl rfl) (s_iadd (s_iload_n dlaw_1185 rfl rfl) (s_iconst dlaw_1186 rfl) dlaw_1187) dlaw_1188) rfl) (s_dAI (s_aload_n dlaw_1189 rfl rfl) (s_iadd (s_iload_n dlaw_1190 rfl rfl) (s_iconst dlaw_1191 rfl) dlaw_1192) dlaw_1193) rfl) dlaw_1194 w5_90)) (s_of_xI (x_callV (ts := [(0, 2), (1, 0), (2, 0)]) ck12 rfl kX12_can mokX12_can w9_54 w9_55 rfl rfl rfl rfl (a_I (ts := [(0, 2), (1, 0)]) 2 (a_I (ts := [(0, 2)]) 1 (a_R (ts := []) 0 a_nil (s_aload_n dlaw_1197 rfl rfl) rfl) (s_dAI (s_aload_n dlaw_1198 rfl rfl) (s_iadd (s_iload_n dlaw_1199 rfl rfl) (s_iconst dlaw_1200 rfl) dlaw_1201) dlaw_1202) rfl) (s_dAI (s_aload_n dlaw_1203 rfl rfl) (s_iadd (s_iload_n dlaw_1204 rfl rfl) (s_iconst dlaw_1205 rfl) dlaw_1206) dlaw_1207) rfl) dlaw_1208 w9_53)) dlaw_1211 rfl) (t_ret (cv := cvI) (fun _ _ => rfl) (s_iconst dlaw_1214 rfl) dlaw_1215) (t_skip (ld_in rfl) rfl) lda_nil (lda_cons (ld_in rfl) lda_nil)) (tn_cons (t_brk (ld_in rfl) rfl) tn_nil) (fun _ _ _ _ _ q => by cases q; exact LE.rf _))
noncomputable def Clw_32 : Sm Int32 := (dSeq (dIf (dCI r_ne (dCallV 11 DX11_needs (aI (aI (aR aN 0 (vR 1)) 1 (dAI (vR 0) (d2 o_iadd (vI 3) (cI 1)))) 2 (dAI (vR 0) (d2 o_iadd (vI 3) (cI 2))))) (dCallV 12 DX12_needs (aI (aI (aR aN 0 (vR 2)) 1 (dAI (vR 0) (d2 o_iadd (vI 3) (cI 1)))) 2 (dAI (vR 0) (d2 o_iadd (vI 3) (cI 2)))))) (dRet (cI 0)) dSkip) dBrk)
theorem sClw_32 : SS (cvoI, .ireturn) milaw [(0, 2), (1, 2), (2, 2), (3, 0)] [2340] [] [(0, 2), (1, 2), (2, 2), (3, 0)] [(0, 2), (1, 2), (2, 2), (3, 0)] 1216 [2340] Clw_32 := (t_seq (XA := [2340]) (Γ' := [(0, 2), (1, 2), (2, 2), (3, 0)]) (t_if (pT := 1247) (pF := 2340) (X := [2340]) (XA := []) (XB := [2340]) (c_ne_F (pF := 2340) (s_of_xI (x_callV (ts := [(0, 2), (1, 0), (2, 0)]) ck11 rfl kX11_needs mokX11_needs w5_99 w5_100 rfl rfl rfl rfl (a_I (ts := [(0, 2), (1, 0)]) 2 (a_I (ts := [(0, 2)]) 1 (a_R (ts := []) 0 a_nil (s_aload_n dlaw_1216 rfl rfl) rfl) (s_dAI (s_aload_n dlaw_1217 rfl rfl) (s_iadd (s_iload_n dlaw_1218 rfl rfl) (s_iconst dlaw_1219 rfl) dlaw_1220) dlaw_1221) rfl) (s_dAI (s_aload_n dlaw_1222 rfl rfl) (s_iadd (s_iload_n dlaw_1223 rfl rfl) (s_iconst dlaw_1224 rfl) dlaw_1225) dlaw_1226) rfl) dlaw_1227 w5_98)) (s_of_xI (x_callV (ts := [(0, 2), (1, 0), (2, 0)]) ck12 rfl kX12_needs mokX12_needs w9_62 w9_63 rfl rfl rfl rfl (a_I (ts := [(0, 2), (1, 0)]) 2 (a_I (ts := [(0, 2)]) 1 (a_R (ts := []) 0 a_nil (s_aload_n dlaw_1230 rfl rfl) rfl) (s_dAI (s_aload_n dlaw_1231 rfl rfl) (s_iadd (s_iload_n dlaw_1232 rfl rfl) (s_iconst dlaw_1233 rfl) dlaw_1234) dlaw_1235) rfl) (s_dAI (s_aload_n dlaw_1236 rfl rfl) (s_iadd (s_iload_n dlaw_1237 rfl rfl) (s_iconst dlaw_1238 rfl) dlaw_1239) dlaw_1240) rfl) dlaw_1241 w9_61)) dlaw_1244 rfl) (t_ret (cv := cvI) (fun _ _ => rfl) (s_iconst dlaw_1247 rfl) dlaw_1248) (t_skip (ld_in rfl) rfl) lda_nil (lda_cons (ld_in rfl) lda_nil)) (tn_cons (t_brk (ld_in rfl) rfl) tn_nil) (fun _ _ _ _ _ q => by cases q; exact LE.rf _))
noncomputable def Clw_33 : Sm Int32 := (dSeq (dIf (dCI r_ne (dCallV 11 DX11_porter (aI (aI (aR aN 0 (vR 1)) 1 (dAI (vR 0) (d2 o_iadd (vI 3) (cI 1)))) 2 (dAI (vR 0) (d2 o_iadd (vI 3) (cI 2))))) (dCallV 12 DX12_porter (aI (aI (aR aN 0 (vR 2)) 1 (dAI (vR 0) (d2 o_iadd (vI 3) (cI 1)))) 2 (dAI (vR 0) (d2 o_iadd (vI 3) (cI 2)))))) (dRet (cI 0)) dSkip) dBrk)
theorem sClw_33 : SS (cvoI, .ireturn) milaw [(0, 2), (1, 2), (2, 2), (3, 0)] [2340] [] [(0, 2), (1, 2), (2, 2), (3, 0)] [(0, 2), (1, 2), (2, 2), (3, 0)] 1249 [2340] Clw_33 := (t_seq (XA := [2340]) (Γ' := [(0, 2), (1, 2), (2, 2), (3, 0)]) (t_if (pT := 1280) (pF := 2340) (X := [2340]) (XA := []) (XB := [2340]) (c_ne_F (pF := 2340) (s_of_xI (x_callV (ts := [(0, 2), (1, 0), (2, 0)]) ck11 rfl kX11_porter mokX11_porter w5_115 w5_116 rfl rfl rfl rfl (a_I (ts := [(0, 2), (1, 0)]) 2 (a_I (ts := [(0, 2)]) 1 (a_R (ts := []) 0 a_nil (s_aload_n dlaw_1249 rfl rfl) rfl) (s_dAI (s_aload_n dlaw_1250 rfl rfl) (s_iadd (s_iload_n dlaw_1251 rfl rfl) (s_iconst dlaw_1252 rfl) dlaw_1253) dlaw_1254) rfl) (s_dAI (s_aload_n dlaw_1255 rfl rfl) (s_iadd (s_iload_n dlaw_1256 rfl rfl) (s_iconst dlaw_1257 rfl) dlaw_1258) dlaw_1259) rfl) dlaw_1260 w5_114)) (s_of_xI (x_callV (ts := [(0, 2), (1, 0), (2, 0)]) ck12 rfl kX12_porter mokX12_porter w9_66 w9_67 rfl rfl rfl rfl (a_I (ts := [(0, 2), (1, 0)]) 2 (a_I (ts := [(0, 2)]) 1 (a_R (ts := []) 0 a_nil (s_aload_n dlaw_1263 rfl rfl) rfl) (s_dAI (s_aload_n dlaw_1264 rfl rfl) (s_iadd (s_iload_n dlaw_1265 rfl rfl) (s_iconst dlaw_1266 rfl) dlaw_1267) dlaw_1268) rfl) (s_dAI (s_aload_n dlaw_1269 rfl rfl) (s_iadd (s_iload_n dlaw_1270 rfl rfl) (s_iconst dlaw_1271 rfl) dlaw_1272) dlaw_1273) rfl) dlaw_1274 w9_65)) dlaw_1277 rfl) (t_ret (cv := cvI) (fun _ _ => rfl) (s_iconst dlaw_1280 rfl) dlaw_1281) (t_skip (ld_in rfl) rfl) lda_nil (lda_cons (ld_in rfl) lda_nil)) (tn_cons (t_brk (ld_in rfl) rfl) tn_nil) (fun _ _ _ _ _ q => by cases q; exact LE.rf _))
noncomputable def Clw_34 : Sm Int32 := (dSeq (dIf (dCI r_ne (dCallV 11 DX11_tells (aI (aI (aI (aR aN 0 (vR 1)) 1 (dAI (vR 0) (d2 o_iadd (vI 3) (cI 1)))) 2 (dAI (vR 0) (d2 o_iadd (vI 3) (cI 2)))) 3 (dAI (vR 0) (d2 o_iadd (vI 3) (cI 3))))) (dCallV 12 DX12_tells (aI (aI (aI (aR aN 0 (vR 2)) 1 (dAI (vR 0) (d2 o_iadd (vI 3) (cI 1)))) 2 (dAI (vR 0) (d2 o_iadd (vI 3) (cI 2)))) 3 (dAI (vR 0) (d2 o_iadd (vI 3) (cI 3)))))) (dRet (cI 0)) dSkip) dBrk)
theorem sClw_34 : SS (cvoI, .ireturn) milaw [(0, 2), (1, 2), (2, 2), (3, 0)] [2340] [] [(0, 2), (1, 2), (2, 2), (3, 0)] [(0, 2), (1, 2), (2, 2), (3, 0)] 1282 [2340] Clw_34 := (t_seq (XA := [2340]) (Γ' := [(0, 2), (1, 2), (2, 2), (3, 0)]) (t_if (pT := 1323) (pF := 2340) (X := [2340]) (XA := []) (XB := [2340]) (c_ne_F (pF := 2340) (s_of_xI (x_callV (ts := [(0, 2), (1, 0), (2, 0), (3, 0)]) ck11 rfl kX11_tells mokX11_tells w5_119 w5_120 rfl rfl rfl rfl (a_I (ts := [(0, 2), (1, 0), (2, 0)]) 3 (a_I (ts := [(0, 2), (1, 0)]) 2 (a_I (ts := [(0, 2)]) 1 (a_R (ts := []) 0 a_nil (s_aload_n dlaw_1282 rfl rfl) rfl) (s_dAI (s_aload_n dlaw_1283 rfl rfl) (s_iadd (s_iload_n dlaw_1284 rfl rfl) (s_iconst dlaw_1285 rfl) dlaw_1286) dlaw_1287) rfl) (s_dAI (s_aload_n dlaw_1288 rfl rfl) (s_iadd (s_iload_n dlaw_1289 rfl rfl) (s_iconst dlaw_1290 rfl) dlaw_1291) dlaw_1292) rfl) (s_dAI (s_aload_n dlaw_1293 rfl rfl) (s_iadd (s_iload_n dlaw_1294 rfl rfl) (s_iconst dlaw_1295 rfl) dlaw_1296) dlaw_1297) rfl) dlaw_1298 w5_118)) (s_of_xI (x_callV (ts := [(0, 2), (1, 0), (2, 0), (3, 0)]) ck12 rfl kX12_tells mokX12_tells w9_70 w9_71 rfl rfl rfl rfl (a_I (ts := [(0, 2), (1, 0), (2, 0)]) 3 (a_I (ts := [(0, 2), (1, 0)]) 2 (a_I (ts := [(0, 2)]) 1 (a_R (ts := []) 0 a_nil (s_aload_n dlaw_1301 rfl rfl) rfl) (s_dAI (s_aload_n dlaw_1302 rfl rfl) (s_iadd (s_iload_n dlaw_1303 rfl rfl) (s_iconst dlaw_1304 rfl) dlaw_1305) dlaw_1306) rfl) (s_dAI (s_aload_n dlaw_1307 rfl rfl) (s_iadd (s_iload_n dlaw_1308 rfl rfl) (s_iconst dlaw_1309 rfl) dlaw_1310) dlaw_1311) rfl) (s_dAI (s_aload_n dlaw_1312 rfl rfl) (s_iadd (s_iload_n dlaw_1313 rfl rfl) (s_iconst dlaw_1314 rfl) dlaw_1315) dlaw_1316) rfl) dlaw_1317 w9_69)) dlaw_1320 rfl) (t_ret (cv := cvI) (fun _ _ => rfl) (s_iconst dlaw_1323 rfl) dlaw_1324) (t_skip (ld_in rfl) rfl) lda_nil (lda_cons (ld_in rfl) lda_nil)) (tn_cons (t_brk (ld_in rfl) rfl) tn_nil) (fun _ _ _ _ _ q => by cases q; exact LE.rf _))
noncomputable def Clw_35 : Sm Int32 := (dSeq (dIf (dCI r_ne (dCallV 11 DX11_cart (aI (aI (aI (aR aN 0 (vR 1)) 1 (dAI (vR 0) (d2 o_iadd (vI 3) (cI 1)))) 2 (dAI (vR 0) (d2 o_iadd (vI 3) (cI 2)))) 3 (dAI (vR 0) (d2 o_iadd (vI 3) (cI 3))))) (dCallV 12 DX12_cart (aI (aI (aI (aR aN 0 (vR 2)) 1 (dAI (vR 0) (d2 o_iadd (vI 3) (cI 1)))) 2 (dAI (vR 0) (d2 o_iadd (vI 3) (cI 2)))) 3 (dAI (vR 0) (d2 o_iadd (vI 3) (cI 3)))))) (dRet (cI 0)) dSkip) dBrk)
theorem sClw_35 : SS (cvoI, .ireturn) milaw [(0, 2), (1, 2), (2, 2), (3, 0)] [2340] [] [(0, 2), (1, 2), (2, 2), (3, 0)] [(0, 2), (1, 2), (2, 2), (3, 0)] 1325 [2340] Clw_35 := (t_seq (XA := [2340]) (Γ' := [(0, 2), (1, 2), (2, 2), (3, 0)]) (t_if (pT := 1366) (pF := 2340) (X := [2340]) (XA := []) (XB := [2340]) (c_ne_F (pF := 2340) (s_of_xI (x_callV (ts := [(0, 2), (1, 0), (2, 0), (3, 0)]) ck11 rfl kX11_cart mokX11_cart w5_128 w5_129 rfl rfl rfl rfl (a_I (ts := [(0, 2), (1, 0), (2, 0)]) 3 (a_I (ts := [(0, 2), (1, 0)]) 2 (a_I (ts := [(0, 2)]) 1 (a_R (ts := []) 0 a_nil (s_aload_n dlaw_1325 rfl rfl) rfl) (s_dAI (s_aload_n dlaw_1326 rfl rfl) (s_iadd (s_iload_n dlaw_1327 rfl rfl) (s_iconst dlaw_1328 rfl) dlaw_1329) dlaw_1330) rfl) (s_dAI (s_aload_n dlaw_1331 rfl rfl) (s_iadd (s_iload_n dlaw_1332 rfl rfl) (s_iconst dlaw_1333 rfl) dlaw_1334) dlaw_1335) rfl) (s_dAI (s_aload_n dlaw_1336 rfl rfl) (s_iadd (s_iload_n dlaw_1337 rfl rfl) (s_iconst dlaw_1338 rfl) dlaw_1339) dlaw_1340) rfl) dlaw_1341 w5_127)) (s_of_xI (x_callV (ts := [(0, 2), (1, 0), (2, 0), (3, 0)]) ck12 rfl kX12_cart mokX12_cart w9_79 w9_80 rfl rfl rfl rfl (a_I (ts := [(0, 2), (1, 0), (2, 0)]) 3 (a_I (ts := [(0, 2), (1, 0)]) 2 (a_I (ts := [(0, 2)]) 1 (a_R (ts := []) 0 a_nil (s_aload_n dlaw_1344 rfl rfl) rfl) (s_dAI (s_aload_n dlaw_1345 rfl rfl) (s_iadd (s_iload_n dlaw_1346 rfl rfl) (s_iconst dlaw_1347 rfl) dlaw_1348) dlaw_1349) rfl) (s_dAI (s_aload_n dlaw_1350 rfl rfl) (s_iadd (s_iload_n dlaw_1351 rfl rfl) (s_iconst dlaw_1352 rfl) dlaw_1353) dlaw_1354) rfl) (s_dAI (s_aload_n dlaw_1355 rfl rfl) (s_iadd (s_iload_n dlaw_1356 rfl rfl) (s_iconst dlaw_1357 rfl) dlaw_1358) dlaw_1359) rfl) dlaw_1360 w9_78)) dlaw_1363 rfl) (t_ret (cv := cvI) (fun _ _ => rfl) (s_iconst dlaw_1366 rfl) dlaw_1367) (t_skip (ld_in rfl) rfl) lda_nil (lda_cons (ld_in rfl) lda_nil)) (tn_cons (t_brk (ld_in rfl) rfl) tn_nil) (fun _ _ _ _ _ q => by cases q; exact LE.rf _))
noncomputable def Clw_36 : Sm Int32 := (dSeq (dIf (dCI r_ne (dCallV 11 DX11_four (aI (aI (aR aN 0 (vR 1)) 1 (dAI (vR 0) (d2 o_iadd (vI 3) (cI 1)))) 2 (dAI (vR 0) (d2 o_iadd (vI 3) (cI 2))))) (dCallV 12 DX12_four_ (aI (aI (aR aN 0 (vR 2)) 1 (dAI (vR 0) (d2 o_iadd (vI 3) (cI 1)))) 2 (dAI (vR 0) (d2 o_iadd (vI 3) (cI 2)))))) (dRet (cI 0)) dSkip) dBrk)
theorem sClw_36 : SS (cvoI, .ireturn) milaw [(0, 2), (1, 2), (2, 2), (3, 0)] [2340] [] [(0, 2), (1, 2), (2, 2), (3, 0)] [(0, 2), (1, 2), (2, 2), (3, 0)] 1368 [2340] Clw_36 := (t_seq (XA := [2340]) (Γ' := [(0, 2), (1, 2), (2, 2), (3, 0)]) (t_if (pT := 1399) (pF := 2340) (X := [2340]) (XA := []) (XB := [2340]) (c_ne_F (pF := 2340) (s_of_xI (x_callV (ts := [(0, 2), (1, 0), (2, 0)]) ck11 rfl kX11_four mokX11_four w5_141 w5_142 rfl rfl rfl rfl (a_I (ts := [(0, 2), (1, 0)]) 2 (a_I (ts := [(0, 2)]) 1 (a_R (ts := []) 0 a_nil (s_aload_n dlaw_1368 rfl rfl) rfl) (s_dAI (s_aload_n dlaw_1369 rfl rfl) (s_iadd (s_iload_n dlaw_1370 rfl rfl) (s_iconst dlaw_1371 rfl) dlaw_1372) dlaw_1373) rfl) (s_dAI (s_aload_n dlaw_1374 rfl rfl) (s_iadd (s_iload_n dlaw_1375 rfl rfl) (s_iconst dlaw_1376 rfl) dlaw_1377) dlaw_1378) rfl) dlaw_1379 w5_140)) (s_of_xI (x_callV (ts := [(0, 2), (1, 0), (2, 0)]) ck12 rfl kX12_four_ mokX12_four_ w9_83 w9_84 rfl rfl rfl rfl (a_I (ts := [(0, 2), (1, 0)]) 2 (a_I (ts := [(0, 2)]) 1 (a_R (ts := []) 0 a_nil (s_aload_n dlaw_1382 rfl rfl) rfl) (s_dAI (s_aload_n dlaw_1383 rfl rfl) (s_iadd (s_iload_n dlaw_1384 rfl rfl) (s_iconst dlaw_1385 rfl) dlaw_1386) dlaw_1387) rfl) (s_dAI (s_aload_n dlaw_1388 rfl rfl) (s_iadd (s_iload_n dlaw_1389 rfl rfl) (s_iconst dlaw_1390 rfl) dlaw_1391) dlaw_1392) rfl) dlaw_1393 w9_82)) dlaw_1396 rfl) (t_ret (cv := cvI) (fun _ _ => rfl) (s_iconst dlaw_1399 rfl) dlaw_1400) (t_skip (ld_in rfl) rfl) lda_nil (lda_cons (ld_in rfl) lda_nil)) (tn_cons (t_brk (ld_in rfl) rfl) tn_nil) (fun _ _ _ _ _ q => by cases q; exact LE.rf _))
noncomputable def Clw_37 : Sm Int32 := (dSeq (dIf (dCI r_ne (dCallV 11 DX11_share (aI (aI (aI (aR aN 0 (vR 1)) 1 (dAI (vR 0) (d2 o_iadd (vI 3) (cI 1)))) 2 (dAI (vR 0) (d2 o_iadd (vI 3) (cI 2)))) 3 (dAI (vR 0) (d2 o_iadd (vI 3) (cI 3))))) (dCallV 12 DX12_share (aI (aI (aI (aR aN 0 (vR 2)) 1 (dAI (vR 0) (d2 o_iadd (vI 3) (cI 1)))) 2 (dAI (vR 0) (d2 o_iadd (vI 3) (cI 2)))) 3 (dAI (vR 0) (d2 o_iadd (vI 3) (cI 3)))))) (dRet (cI 0)) dSkip) dBrk)
theorem sClw_37 : SS (cvoI, .ireturn) milaw [(0, 2), (1, 2), (2, 2), (3, 0)] [2340] [] [(0, 2), (1, 2), (2, 2), (3, 0)] [(0, 2), (1, 2), (2, 2), (3, 0)] 1401 [2340] Clw_37 := (t_seq (XA := [2340]) (Γ' := [(0, 2), (1, 2), (2, 2), (3, 0)]) (t_if (pT := 1442) (pF := 2340) (X := [2340]) (XA := []) (XB := [2340]) (c_ne_F (pF := 2340) (s_of_xI (x_callV (ts := [(0, 2), (1, 0), (2, 0), (3, 0)]) ck11 rfl kX11_share mokX11_share w5_145 w5_146 rfl rfl rfl rfl (a_I (ts := [(0, 2), (1, 0), (2, 0)]) 3 (a_I (ts := [(0, 2), (1, 0)]) 2 (a_I (ts := [(0, 2)]) 1 (a_R (ts := []) 0 a_nil (s_aload_n dlaw_1401 rfl rfl) rfl) (s_dAI (s_aload_n dlaw_1402 rfl rfl) (s_iadd (s_iload_n dlaw_1403 rfl rfl) (s_iconst dlaw_1404 rfl) dlaw_1405) dlaw_1406) rfl) (s_dAI (s_aload_n dlaw_1407 rfl rfl) (s_iadd (s_iload_n dlaw_1408 rfl rfl) (s_iconst dlaw_1409 rfl) dlaw_1410) dlaw_1411) rfl) (s_dAI (s_aload_n dlaw_1412 rfl rfl) (s_iadd (s_iload_n dlaw_1413 rfl rfl) (s_iconst dlaw_1414 rfl) dlaw_1415) dlaw_1416) rfl) dlaw_1417 w5_144)) (s_of_xI (x_callV (ts := [(0, 2), (1, 0), (2, 0), (3, 0)]) ck12 rfl kX12_share mokX12_share w9_87 w9_88 rfl rfl rfl rfl (a_I (ts := [(0, 2), (1, 0), (2, 0)]) 3 (a_I (ts := [(0, 2), (1, 0)]) 2 (a_I (ts := [(0, 2)]) 1 (a_R (ts := []) 0 a_nil (s_aload_n dlaw_1420 rfl rfl) rfl) (s_dAI (s_aload_n dlaw_1421 rfl rfl) (s_iadd (s_iload_n dlaw_1422 rfl rfl) (s_iconst dlaw_1423 rfl) dlaw_1424) dlaw_1425) rfl) (s_dAI (s_aload_n dlaw_1426 rfl rfl) (s_iadd (s_iload_n dlaw_1427 rfl rfl) (s_iconst dlaw_1428 rfl) dlaw_1429) dlaw_1430) rfl) (s_dAI (s_aload_n dlaw_1431 rfl rfl) (s_iadd (s_iload_n dlaw_1432 rfl rfl) (s_iconst dlaw_1433 rfl) dlaw_1434) dlaw_1435) rfl) dlaw_1436 w9_86)) dlaw_1439 rfl) (t_ret (cv := cvI) (fun _ _ => rfl) (s_iconst dlaw_1442 rfl) dlaw_1443) (t_skip (ld_in rfl) rfl) lda_nil (lda_cons (ld_in rfl) lda_nil)) (tn_cons (t_brk (ld_in rfl) rfl) tn_nil) (fun _ _ _ _ _ q => by cases q; exact LE.rf _))
noncomputable def Clw_38 : Sm Int32 := (dSeq (dIf (dCI r_ne (dCallV 11 DX11_block (aI (aR aN 0 (vR 1)) 1 (dAI (vR 0) (d2 o_iadd (vI 3) (cI 1))))) (dCallV 12 DX12_block (aI (aR aN 0 (vR 2)) 1 (dAI (vR 0) (d2 o_iadd (vI 3) (cI 1)))))) (dRet (cI 0)) dSkip) dBrk)
theorem sClw_38 : SS (cvoI, .ireturn) milaw [(0, 2), (1, 2), (2, 2), (3, 0)] [2340] [] [(0, 2), (1, 2), (2, 2), (3, 0)] [(0, 2), (1, 2), (2, 2), (3, 0)] 1444 [2340] Clw_38 := (t_seq (XA := [2340]) (Γ' := [(0, 2), (1, 2), (2, 2), (3, 0)]) (t_if (pT := 1465) (pF := 2340) (X := [2340]) (XA := []) (XB := [2340]) (c_ne_F (pF := 2340) (s_of_xI (x_callV (ts := [(0, 2), (1, 0)]) ck11 rfl kX11_block mokX11_block w5_167 w5_168 rfl rfl rfl rfl (a_I (ts := [(0, 2)]) 1 (a_R (ts := []) 0 a_nil (s_aload_n dlaw_1444 rfl rfl) rfl) (s_dAI (s_aload_n dlaw_1445 rfl rfl) (s_iadd (s_iload_n dlaw_1446 rfl rfl) (s_iconst dlaw_1447 rfl) dlaw_1448) dlaw_1449) rfl) dlaw_1450 w5_166)) (s_of_xI (x_callV (ts := [(0, 2), (1, 0)]) ck12 rfl kX12_block mokX12_block w9_104 w9_105 rfl rfl rfl rfl (a_I (ts := [(0, 2)]) 1 (a_R (ts := []) 0 a_nil (s_aload_n dlaw_1453 rfl rfl) rfl) (s_dAI (s_aload_n dlaw_1454 rfl rfl) (s_iadd (s_iload_n dlaw_1455 rfl rfl) (s_iconst dlaw_1456 rfl) dlaw_1457) dlaw_1458) rfl) dlaw_1459 w9_103)) dlaw_1462 rfl) (t_ret (cv := cvI) (fun _ _ => rfl) (s_iconst dlaw_1465 rfl) dlaw_1466) (t_skip (ld_in rfl) rfl) lda_nil (lda_cons (ld_in rfl) lda_nil)) (tn_cons (t_brk (ld_in rfl) rfl) tn_nil) (fun _ _ _ _ _ q => by cases q; exact LE.rf _))
noncomputable def Clw_39 : Sm Int32 := (dSeq (dIf (dCI r_ne (dCallV 11 DX11_by (aI (aI (aR aN 0 (vR 1)) 1 (dAI (vR 0) (d2 o_iadd (vI 3) (cI 1)))) 2 (dAI (vR 0) (d2 o_iadd (vI 3) (cI 2))))) (dCallV 12 DX12_by (aI (aI (aR aN 0 (vR 2)) 1 (dAI (vR 0) (d2 o_iadd (vI 3) (cI 1)))) 2 (dAI (vR 0) (d2 o_iadd (vI 3) (cI 2)))))) (dRet (cI 0)) dSkip) dBrk)
theorem sClw_39 : SS (cvoI, .ireturn) milaw [(0, 2), (1, 2), (2, 2), (3, 0)] [2340] [] [(0, 2), (1, 2), (2, 2), (3, 0)] [(0, 2), (1, 2), (2, 2), (3, 0)] 1467 [2340] Clw_39 := (t_seq (XA := [2340]) (Γ' := [(0, 2), (1, 2), (2, 2), (3, 0)]) (t_if (pT := 1498) (pF := 2340) (X := [2340]) (XA := []) (XB := [2340]) (c_ne_F (pF := 2340) (s_of_xI (x_callV (ts := [(0, 2), (1, 0), (2, 0)]) ck11 rfl kX11_by mokX11_by w5_175 w5_176 rfl rfl rfl rfl (a_I (ts := [(0, 2), (1, 0)]) 2 (a_I (ts := [(0, 2)]) 1 (a_R (ts := []) 0 a_nil (s_aload_n dlaw_1467 rfl rfl) rfl) (s_dAI (s_aload_n dlaw_1468 rfl rfl) (s_iadd (s_iload_n dlaw_1469 rfl rfl) (s_iconst dlaw_1470 rfl) dlaw_1471) dlaw_1472) rfl) (s_dAI (s_aload_n dlaw_1473 rfl rfl) (s_iadd (s_iload_n dlaw_1474 rfl rfl) (s_iconst dlaw_1475 rfl) dlaw_1476) dlaw_1477) rfl) dlaw_1478 w5_174)) (s_of_xI (x_callV (ts := [(0, 2), (1, 0), (2, 0)]) ck12 rfl kX12_by mokX12_by w9_108 w9_109 rfl rfl rfl rfl (a_I (ts := [(0, 2), (1, 0)]) 2 (a_I (ts := [(0, 2)]) 1 (a_R (ts := []) 0 a_nil (s_aload_n dlaw_1481 rfl rfl) rfl) (s_dAI (s_aload_n dlaw_1482 rfl rfl) (s_iadd (s_iload_n dlaw_1483 rfl rfl) (s_iconst dlaw_1484 rfl) dlaw_1485) dlaw_1486) rfl) (s_dAI (s_aload_n dlaw_1487 rfl rfl) (s_iadd (s_iload_n dlaw_1488 rfl rfl) (s_iconst dlaw_1489 rfl) dlaw_1490) dlaw_1491) rfl) dlaw_1492 w9_107)) dlaw_1495 rfl) (t_ret (cv := cvI) (fun _ _ => rfl) (s_iconst dlaw_1498 rfl) dlaw_1499) (t_skip (ld_in rfl) rfl) lda_nil (lda_cons (ld_in rfl) lda_nil)) (tn_cons (t_brk (ld_in rfl) rfl) tn_nil) (fun _ _ _ _ _ q => by cases q; exact LE.rf _))
noncomputable def Clw_40 : Sm Int32 := (dSeq (dIf (dCI r_ne (dCallV 11 DX11_law (aI (aR aN 0 (vR 1)) 1 (dAI (vR 0) (d2 o_iadd (vI 3) (cI 1))))) (dCallV 12 DX12_law (aI (aR aN 0 (vR 2)) 1 (dAI (vR 0) (d2 o_iadd (vI 3) (cI 1)))))) (dRet (cI 0)) dSkip) dBrk)
theorem sClw_40 : SS (cvoI, .ireturn) milaw [(0, 2), (1, 2), (2, 2), (3, 0)] [2340] [] [(0, 2), (1, 2), (2, 2), (3, 0)] [(0, 2), (1, 2), (2, 2), (3, 0)] 1500 [2340] Clw_40 := (t_seq (XA := [2340]) (Γ' := [(0, 2), (1, 2), (2, 2), (3, 0)]) (t_if (pT := 1521) (pF := 2340) (X := [2340]) (XA := []) (XB := [2340]) (c_ne_F (pF := 2340) (s_of_xI (x_callV (ts := [(0, 2), (1, 0)]) ck11 rfl kX11_law mokX11_law w5_186 w5_187 rfl rfl rfl rfl (a_I (ts := [(0, 2)]) 1 (a_R (ts := []) 0 a_nil (s_aload_n dlaw_1500 rfl rfl) rfl) (s_dAI (s_aload_n dlaw_1501 rfl rfl) (s_iadd (s_iload_n dlaw_1502 rfl rfl) (s_iconst dlaw_1503 rfl) dlaw_1504) dlaw_1505) rfl) dlaw_1506 w5_185)) (s_of_xI (x_callV (ts := [(0, 2), (1, 0)]) ck12 rfl kX12_law mokX12_law w9_116 w9_117 rfl rfl rfl rfl (a_I (ts := [(0, 2)]) 1 (a_R (ts := []) 0 a_nil (s_aload_n dlaw_1509 rfl rfl) rfl) (s_dAI (s_aload_n dlaw_1510 rfl rfl) (s_iadd (s_iload_n dlaw_1511 rfl rfl) (s_iconst dlaw_1512 rfl) dlaw_1513) dlaw_1514) rfl) dlaw_1515 w9_115)) dlaw_1518 rfl) (t_ret (cv := cvI) (fun _ _ => rfl) (s_iconst dlaw_1521 rfl) dlaw_1522) (t_skip (ld_in rfl) rfl) lda_nil (lda_cons (ld_in rfl) lda_nil)) (tn_cons (t_brk (ld_in rfl) rfl) tn_nil) (fun _ _ _ _ _ q => by cases q; exact LE.rf _))
noncomputable def Clw_41 : Sm Int32 := (dSeq (dIf (dCI r_ne (dCallV 11 DX11_firsts (aI (aI (aR aN 0 (vR 1)) 1 (dAI (vR 0) (d2 o_iadd (vI 3) (cI 1)))) 2 (dAI (vR 0) (d2 o_iadd (vI 3) (cI 2))))) (dCallV 12 DX12_firsts (aI (aI (aR aN 0 (vR 2)) 1 (dAI (vR 0) (d2 o_iadd (vI 3) (cI 1)))) 2 (dAI (vR 0) (d2 o_iadd (vI 3) (cI 2)))))) (dRet (cI 0)) dSkip) dBrk)
theorem sClw_41 : SS (cvoI, .ireturn) milaw [(0, 2), (1, 2), (2, 2), (3, 0)] [2340] [] [(0, 2), (1, 2), (2, 2), (3, 0)] [(0, 2), (1, 2), (2, 2), (3, 0)] 1523 [2340] Clw_41 := (t_seq (XA := [2340]) (Γ' := [(0, 2), (1, 2), (2, 2), (3, 0)]) (t_if (pT := 1554) (pF := 2340) (X := [2340]) (XA := []) (XB := [2340]) (c_ne_F (pF := 2340) (s_of_xI (x_callV (ts := [(0, 2), (1, 0), (2, 0)]) ck11 rfl kX11_firsts mokX11_firsts w5_190 w5_191 rfl rfl rfl rfl (a_I (ts := [(0, 2), (1, 0)]) 2 (a_I (ts := [(0, 2)]) 1 (a_R (ts := []) 0 a_nil (s_aload_n dlaw_1523 rfl rfl) rfl) (s_dAI (s_aload_n dlaw_1524 rfl rfl) (s_iadd (s_iload_n dlaw_1525 rfl rfl) (s_iconst dlaw_1526 rfl) dlaw_1527) dlaw_1528) rfl) (s_dAI (s_aload_n dlaw_1529 rfl rfl) (s_iadd (s_iload_n dlaw_1530 rfl rfl) (s_iconst dlaw_1531 rfl) dlaw_1532) dlaw_1533) rfl) dlaw_1534 w5_189)) (s_of_xI (x_callV (ts := [(0, 2), (1, 0), (2, 0)]) ck12 rfl kX12_firsts mokX12_firsts w9_124 w9_125 rfl rfl rfl rfl (a_I (ts := [(0, 2), (1, 0)]) 2 (a_I (ts := [(0, 2)]) 1 (a_R (ts := []) 0 a_nil (s_aload_n dlaw_1537 rfl rfl) rfl) (s_dAI (s_aload_n dlaw_1538 rfl rfl) (s_iadd (s_iload_n dlaw_1539 rfl rfl) (s_iconst dlaw_1540 rfl) dlaw_1541) dlaw_1542) rfl) (s_dAI (s_aload_n dlaw_1543 rfl rfl) (s_iadd (s_iload_n dlaw_1544 rfl rfl) (s_iconst dlaw_1545 rfl) dlaw_1546) dlaw_1547) rfl) dlaw_1548 w9_123)) dlaw_1551 rfl) (t_ret (cv := cvI) (fun _ _ => rfl) (s_iconst dlaw_1554 rfl) dlaw_1555) (t_skip (ld_in rfl) rfl) lda_nil (lda_cons (ld_in rfl) lda_nil)) (tn_cons (t_brk (ld_in rfl) rfl) tn_nil) (fun _ _ _ _ _ q => by cases q; exact LE.rf _))
noncomputable def Clw_42 : Sm Int32 := (dSeq (dIf (dCI r_ne (dCallV 11 DX11_ask (aI (aI (aR aN 0 (vR 1)) 1 (dAI (vR 0) (d2 o_iadd (vI 3) (cI 1)))) 2 (dAI (vR 0) (d2 o_iadd (vI 3) (cI 2))))) (dCallV 12 DX12_ask (aI (aI (aR aN 0 (vR 2)) 1 (dAI (vR 0) (d2 o_iadd (vI 3) (cI 1)))) 2 (dAI (vR 0) (d2 o_iadd (vI 3) (cI 2)))))) (dRet (cI 0)) dSkip) dBrk)
theorem sClw_42 : SS (cvoI, .ireturn) milaw [(0, 2), (1, 2), (2, 2), (3, 0)] [2340] [] [(0, 2), (1, 2), (2, 2), (3, 0)] [(0, 2), (1, 2), (2, 2), (3, 0)] 1556 [2340] Clw_42 := (t_seq (XA := [2340]) (Γ' := [(0, 2), (1, 2), (2, 2), (3, 0)]) (t_if (pT := 1587) (pF := 2340) (X := [2340]) (XA := []) (XB := [2340]) (c_ne_F (pF := 2340) (s_of_xI (x_callV (ts := [(0, 2), (1, 0), (2, 0)]) ck11 rfl kX11_ask mokX11_ask w5_228 w5_229 rfl rfl rfl rfl (a_I (ts := [(0, 2), (1, 0)]) 2 (a_I (ts := [(0, 2)]) 1 (a_R (ts := []) 0 a_nil (s_aload_n dlaw_1556 rfl rfl) rfl) (s_dAI (s_aload_n dlaw_1557 rfl rfl) (s_iadd (s_iload_n dlaw_1558 rfl rfl) (s_iconst dlaw_1559 rfl) dlaw_1560) dlaw_1561) rfl) (s_dAI (s_aload_n dlaw_1562 rfl rfl) (s_iadd (s_iload_n dlaw_1563 rfl rfl) (s_iconst dlaw_1564 rfl) dlaw_1565) dlaw_1566) rfl) dlaw_1567 w5_227)) (s_of_xI (x_callV (ts := [(0, 2), (1, 0), (2, 0)]) ck12 rfl kX12_ask mokX12_ask w9_140 w9_141 rfl rfl rfl rfl (a_I (ts := [(0, 2), (1, 0)]) 2 (a_I (ts := [(0, 2)]) 1 (a_R (ts := []) 0 a_nil (s_aload_n dlaw_1570 rfl rfl) rfl) (s_dAI (s_aload_n dlaw_1571 rfl rfl) (s_iadd (s_iload_n dlaw_1572 rfl rfl) (s_iconst dlaw_1573 rfl) dlaw_1574) dlaw_1575) rfl) (s_dAI (s_aload_n dlaw_1576 rfl rfl) (s_iadd (s_iload_n dlaw_1577 rfl rfl) (s_iconst dlaw_1578 rfl) dlaw_1579) dlaw_1580) rfl) dlaw_1581 w9_139)) dlaw_1584 rfl) (t_ret (cv := cvI) (fun _ _ => rfl) (s_iconst dlaw_1587 rfl) dlaw_1588) (t_skip (ld_in rfl) rfl) lda_nil (lda_cons (ld_in rfl) lda_nil)) (tn_cons (t_brk (ld_in rfl) rfl) tn_nil) (fun _ _ _ _ _ q => by cases q; exact LE.rf _))
noncomputable def Clw_43 : Sm Int32 := (dSeq (dIf (dCI r_ne (dCallV 11 DX11_leaves (aI (aI (aR aN 0 (vR 1)) 1 (dAI (vR 0) (d2 o_iadd (vI 3) (cI 1)))) 2 (dAI (vR 0) (d2 o_iadd (vI 3) (cI 2))))) (dCallV 12 DX12_leaves (aI (aI (aR aN 0 (vR 2)) 1 (dAI (vR 0) (d2 o_iadd (vI 3) (cI 1)))) 2 (dAI (vR 0) (d2 o_iadd (vI 3) (cI 2)))))) (dRet (cI 0)) dSkip) dBrk)
theorem sClw_43 : SS (cvoI, .ireturn) milaw [(0, 2), (1, 2), (2, 2), (3, 0)] [2340] [] [(0, 2), (1, 2), (2, 2), (3, 0)] [(0, 2), (1, 2), (2, 2), (3, 0)] 1589 [2340] Clw_43 := (t_seq (XA := [2340]) (Γ' := [(0, 2), (1, 2), (2, 2), (3, 0)]) (t_if (pT := 1620) (pF := 2340) (X := [2340]) (XA := []) (XB := [2340]) (c_ne_F (pF := 2340) (s_of_xI (x_callV (ts := [(0, 2), (1, 0), (2, 0)]) ck11 rfl kX11_leaves mokX11_leaves w6_4 w6_5 rfl rfl rfl rfl (a_I (ts := [(0, 2), (1, 0)]) 2 (a_I (ts := [(0, 2)]) 1 (a_R (ts := []) 0 a_nil (s_aload_n dlaw_1589 rfl rfl) rfl) (s_dAI (s_aload_n dlaw_1590 rfl rfl) (s_iadd (s_iload_n dlaw_1591 rfl rfl) (s_iconst dlaw_1592 rfl) dlaw_1593) dlaw_1594) rfl) (s_dAI (s_aload_n dlaw_1595 rfl rfl) (s_iadd (s_iload_n dlaw_1596 rfl rfl) (s_iconst dlaw_1597 rfl) dlaw_1598) dlaw_1599) rfl) dlaw_1600 w6_3)) (s_of_xI (x_callV (ts := [(0, 2), (1, 0), (2, 0)]) ck12 rfl kX12_leaves mokX12_leaves w9_144 w9_145 rfl rfl rfl rfl (a_I (ts := [(0, 2), (1, 0)]) 2 (a_I (ts := [(0, 2)]) 1 (a_R (ts := []) 0 a_nil (s_aload_n dlaw_1603 rfl rfl) rfl) (s_dAI (s_aload_n dlaw_1604 rfl rfl) (s_iadd (s_iload_n dlaw_1605 rfl rfl) (s_iconst dlaw_1606 rfl) dlaw_1607) dlaw_1608) rfl) (s_dAI (s_aload_n dlaw_1609 rfl rfl) (s_iadd (s_iload_n dlaw_1610 rfl rfl) (s_iconst dlaw_1611 rfl) dlaw_1612) dlaw_1613) rfl) dlaw_1614 w9_143)) dlaw_1617 rfl) (t_ret (cv := cvI) (fun _ _ => rfl) (s_iconst dlaw_1620 rfl) dlaw_1621) (t_skip (ld_in rfl) rfl) lda_nil (lda_cons (ld_in rfl) lda_nil)) (tn_cons (t_brk (ld_in rfl) rfl) tn_nil) (fun _ _ _ _ _ q => by cases q; exact LE.rf _))
noncomputable def Clw_44 : Sm Int32 := (dSeq (dIf (dCI r_ne (dCallV 11 DX11_laws (aI (aI (aR aN 0 (vR 1)) 1 (dAI (vR 0) (d2 o_iadd (vI 3) (cI 1)))) 2 (dAI (vR 0) (d2 o_iadd (vI 3) (cI 2))))) (dCallV 12 DX12_laws (aI (aI (aR aN 0 (vR 2)) 1 (dAI (vR 0) (d2 o_iadd (vI 3) (cI 1)))) 2 (dAI (vR 0) (d2 o_iadd (vI 3) (cI 2)))))) (dRet (cI 0)) dSkip) dBrk)
theorem sClw_44 : SS (cvoI, .ireturn) milaw [(0, 2), (1, 2), (2, 2), (3, 0)] [2340] [] [(0, 2), (1, 2), (2, 2), (3, 0)] [(0, 2), (1, 2), (2, 2), (3, 0)] 1622 [2340] Clw_44 := (t_seq (XA := [2340]) (Γ' := [(0, 2), (1, 2), (2, 2), (3, 0)]) (t_if (pT := 1653) (pF := 2340) (X := [2340]) (XA := []) (XB := [2340]) (c_ne_F (pF := 2340) (s_of_xI (x_callV (ts := [(0, 2), (1, 0), (2, 0)]) ck11 rfl kX11_laws mokX11_laws w6_9 w6_10 rfl rfl rfl rfl (a_I (ts := [(0, 2), (1, 0)]) 2 (a_I (ts := [(0, 2)]) 1 (a_R (ts := []) 0 a_nil (s_aload_n dlaw_1622 rfl rfl) rfl) (s_dAI (s_aload_n dlaw_1623 rfl rfl) (s_iadd (s_iload_n dlaw_1624 rfl rfl) (s_iconst dlaw_1625 rfl) dlaw_1626) dlaw_1627) rfl) (s_dAI (s_aload_n dlaw_1628 rfl rfl) (s_iadd (s_iload_n dlaw_1629 rfl rfl) (s_iconst dlaw_1630 rfl) dlaw_1631) dlaw_1632) rfl) dlaw_1633 w6_8)) (s_of_xI (x_callV (ts := [(0, 2), (1, 0), (2, 0)]) ck12 rfl kX12_laws mokX12_laws w9_148 w9_149 rfl rfl rfl rfl (a_I (ts := [(0, 2), (1, 0)]) 2 (a_I (ts := [(0, 2)]) 1 (a_R (ts := []) 0 a_nil (s_aload_n dlaw_1636 rfl rfl) rfl) (s_dAI (s_aload_n dlaw_1637 rfl rfl) (s_iadd (s_iload_n dlaw_1638 rfl rfl) (s_iconst dlaw_1639 rfl) dlaw_1640) dlaw_1641) rfl) (s_dAI (s_aload_n dlaw_1642 rfl rfl) (s_iadd (s_iload_n dlaw_1643 rfl rfl) (s_iconst dlaw_1644 rfl) dlaw_1645) dlaw_1646) rfl) dlaw_1647 w9_147)) dlaw_1650 rfl) (t_ret (cv := cvI) (fun _ _ => rfl) (s_iconst dlaw_1653 rfl) dlaw_1654) (t_skip (ld_in rfl) rfl) lda_nil (lda_cons (ld_in rfl) lda_nil)) (tn_cons (t_brk (ld_in rfl) rfl) tn_nil) (fun _ _ _ _ _ q => by cases q; exact LE.rf _))
noncomputable def Clw_45 : Sm Int32 := (dSeq (dIf (dCI r_ne (dCallV 11 DX11_beside (aI (aR aN 0 (vR 1)) 1 (dAI (vR 0) (d2 o_iadd (vI 3) (cI 1))))) (dCallV 12 DX12_beside (aI (aR aN 0 (vR 2)) 1 (dAI (vR 0) (d2 o_iadd (vI 3) (cI 1)))))) (dRet (cI 0)) dSkip) dBrk)
theorem sClw_45 : SS (cvoI, .ireturn) milaw [(0, 2), (1, 2), (2, 2), (3, 0)] [2340] [] [(0, 2), (1, 2), (2, 2), (3, 0)] [(0, 2), (1, 2), (2, 2), (3, 0)] 1655 [2340] Clw_45 := (t_seq (XA := [2340]) (Γ' := [(0, 2), (1, 2), (2, 2), (3, 0)]) (t_if (pT := 1676) (pF := 2340) (X := [2340]) (XA := []) (XB := [2340]) (c_ne_F (pF := 2340) (s_of_xI (x_callV (ts := [(0, 2), (1, 0)]) ck11 rfl kX11_beside mokX11_beside w6_14 w6_15 rfl rfl rfl rfl (a_I (ts := [(0, 2)]) 1 (a_R (ts := []) 0 a_nil (s_aload_n dlaw_1655 rfl rfl) rfl) (s_dAI (s_aload_n dlaw_1656 rfl rfl) (s_iadd (s_iload_n dlaw_1657 rfl rfl) (s_iconst dlaw_1658 rfl) dlaw_1659) dlaw_1660) rfl) dlaw_1661 w6_13)) (s_of_xI (x_callV (ts := [(0, 2), (1, 0)]) ck12 rfl kX12_beside mokX12_beside w9_120 w9_121 rfl rfl rfl rfl (a_I (ts := [(0, 2)]) 1 (a_R (ts := []) 0 a_nil (s_aload_n dlaw_1664 rfl rfl) rfl) (s_dAI (s_aload_n dlaw_1665 rfl rfl) (s_iadd (s_iload_n dlaw_1666 rfl rfl) (s_iconst dlaw_1667 rfl) dlaw_1668) dlaw_1669) rfl) dlaw_1670 w9_119)) dlaw_1673 rfl) (t_ret (cv := cvI) (fun _ _ => rfl) (s_iconst dlaw_1676 rfl) dlaw_1677) (t_skip (ld_in rfl) rfl) lda_nil (lda_cons (ld_in rfl) lda_nil)) (tn_cons (t_brk (ld_in rfl) rfl) tn_nil) (fun _ _ _ _ _ q => by cases q; exact LE.rf _))
noncomputable def Clw_46 : Sm Int32 := (dSeq (dIf (dCI r_ne (dCallV 11 DX11_rests (aI (aI (aI (aR aN 0 (vR 1)) 1 (dAI (vR 0) (d2 o_iadd (vI 3) (cI 1)))) 2 (dAI (vR 0) (d2 o_iadd (vI 3) (cI 2)))) 3 (dAI (vR 0) (d2 o_iadd (vI 3) (cI 3))))) (dCallV 12 DX12_rests (aI (aI (aI (aR aN 0 (vR 2)) 1 (dAI (vR 0) (d2 o_iadd (vI 3) (cI 1)))) 2 (dAI (vR 0) (d2 o_iadd (vI 3) (cI 2)))) 3 (dAI (vR 0) (d2 o_iadd (vI 3) (cI 3)))))) (dRet (cI 0)) dSkip) dBrk)
theorem sClw_46 : SS (cvoI, .ireturn) milaw [(0, 2), (1, 2), (2, 2), (3, 0)] [2340] [] [(0, 2), (1, 2), (2, 2), (3, 0)] [(0, 2), (1, 2), (2, 2), (3, 0)] 1678 [2340] Clw_46 := (t_seq (XA := [2340]) (Γ' := [(0, 2), (1, 2), (2, 2), (3, 0)]) (t_if (pT := 1719) (pF := 2340) (X := [2340]) (XA := []) (XB := [2340]) (c_ne_F (pF := 2340) (s_of_xI (x_callV (ts := [(0, 2), (1, 0), (2, 0), (3, 0)]) ck11 rfl kX11_rests mokX11_rests w6_18 w6_19 rfl rfl rfl rfl (a_I (ts := [(0, 2), (1, 0), (2, 0)]) 3 (a_I (ts := [(0, 2), (1, 0)]) 2 (a_I (ts := [(0, 2)]) 1 (a_R (ts := []) 0 a_nil (s_aload_n dlaw_1678 rfl rfl) rfl) (s_dAI (s_aload_n dlaw_1679 rfl rfl) (s_iadd (s_iload_n dlaw_1680 rfl rfl) (s_iconst dlaw_1681 rfl) dlaw_1682) dlaw_1683) rfl) (s_dAI (s_aload_n dlaw_1684 rfl rfl) (s_iadd (s_iload_n dlaw_1685 rfl rfl) (s_iconst dlaw_1686 rfl) dlaw_1687) dlaw_1688) rfl) (s_dAI (s_aload_n dlaw_1689 rfl rfl) (s_iadd (s_iload_n dlaw_1690 rfl rfl) (s_iconst dlaw_1691 rfl) dlaw_1692) dlaw_1693) rfl) dlaw_1694 w6_17)) (s_of_xI (x_callV (ts := [(0, 2), (1, 0), (2, 0), (3, 0)]) ck12 rfl kX12_rests mokX12_rests w9_152 w9_153 rfl rfl rfl rfl (a_I (ts := [(0, 2), (1, 0), (2, 0)]) 3 (a_I (ts := [(0, 2), (1, 0)]) 2 (a_I (ts := [(0, 2)]) 1 (a_R (ts := []) 0 a_nil (s_aload_n dlaw_1697 rfl rfl) rfl) (s_dAI (s_aload_n dlaw_1698 rfl rfl) (s_iadd (s_iload_n dlaw_1699 rfl rfl) (s_iconst dlaw_1700 rfl) dlaw_1701) dlaw_1702) rfl) (s_dAI (s_aload_n dlaw_1703 rfl rfl) (s_iadd (s_iload_n dlaw_1704 rfl rfl) (s_iconst dlaw_1705 rfl) dlaw_1706) dlaw_1707) rfl) (s_dAI (s_aload_n dlaw_1708 rfl rfl) (s_iadd (s_iload_n dlaw_1709 rfl rfl) (s_iconst dlaw_1710 rfl) dlaw_1711) dlaw_1712) rfl) dlaw_1713 w9_151)) dlaw_1716 rfl) (t_ret (cv := cvI) (fun _ _ => rfl) (s_iconst dlaw_1719 rfl) dlaw_1720) (t_skip (ld_in rfl) rfl) lda_nil (lda_cons (ld_in rfl) lda_nil)) (tn_cons (t_brk (ld_in rfl) rfl) tn_nil) (fun _ _ _ _ _ q => by cases q; exact LE.rf _))
noncomputable def Clw_47 : Sm Int32 := (dSeq (dIf (dCI r_ne (dCallV 11 DX11_gets (aI (aI (aI (aI (aI (aR aN 0 (vR 1)) 1 (dAI (vR 0) (d2 o_iadd (vI 3) (cI 1)))) 2 (dAI (vR 0) (d2 o_iadd (vI 3) (cI 2)))) 3 (dAI (vR 0) (d2 o_iadd (vI 3) (cI 3)))) 4 (dAI (vR 0) (d2 o_iadd (vI 3) (cI 4)))) 5 (dAI (vR 0) (d2 o_iadd (vI 3) (cI 5))))) (dCallV 12 DX12_gets (aI (aI (aI (aI (aI (aR aN 0 (vR 2)) 1 (dAI (vR 0) (d2 o_iadd (vI 3) (cI 1)))) 2 (dAI (vR 0) (d2 o_iadd (vI 3) (cI 2)))) 3 (dAI (vR 0) (d2 o_iadd (vI 3) (cI 3)))) 4 (dAI (vR 0) (d2 o_iadd (vI 3) (cI 4)))) 5 (dAI (vR 0) (d2 o_iadd (vI 3) (cI 5)))))) (dRet (cI 0)) dSkip) dBrk)
theorem sClw_47 : SS (cvoI, .ireturn) milaw [(0, 2), (1, 2), (2, 2), (3, 0)] [2340] [] [(0, 2), (1, 2), (2, 2), (3, 0)] [(0, 2), (1, 2), (2, 2), (3, 0)] 1721 [2340] Clw_47 := (t_seq (XA := [2340]) (Γ' := [(0, 2), (1, 2), (2, 2), (3, 0)]) (t_if (pT := 1782) (pF := 2340) (X := [2340]) (XA := []) (XB := [2340]) (c_ne_F (pF := 2340) (s_of_xI (x_callV (ts := [(0, 2), (1, 0), (2, 0), (3, 0), (4, 0), (5, 0)]) ck11 rfl kX11_gets mokX11_gets w6_45 w6_46 rfl rfl rfl rfl (a_I (ts := [(0, 2), (1, 0), (2, 0), (3, 0), (4, 0)]) 5 (a_I (ts := [(0, 2), (1, 0), (2, 0), (3, 0)]) 4 (a_I (ts := [(0, 2), (1, 0), (2, 0)]) 3 (a_I (ts := [(0, 2), (1, 0)]) 2 (a_I (ts := [(0, 2)]) 1 (a_R (ts := []) 0 a_nil (s_aload_n dlaw_1721 rfl rfl) rfl) (s_dAI (s_aload_n dlaw_1722 rfl rfl) (s_iadd (s_iload_n dlaw_1723 rfl rfl) (s_iconst dlaw_1724 rfl) dlaw_1725) dlaw_1726) rfl) (s_dAI (s_aload_n dlaw_1727 rfl rfl) (s_iadd (s_iload_n dlaw_1728 rfl rfl) (s_iconst dlaw_1729 rfl) dlaw_1730) dlaw_1731) rfl) (s_dAI (s_aload_n dlaw_1732 rfl rfl) (s_iadd (s_iload_n dlaw_1733 rfl rfl) (s_iconst dlaw_1734 rfl) dlaw_1735) dlaw_1736) rfl) (s_dAI (s_aload_n dlaw_1737 rfl rfl) (s_iadd (s_iload_n dlaw_1738 rfl rfl) (s_iconst dlaw_1739 rfl) dlaw_1740) dlaw_1741) rfl) (s_dAI (s_aload_n dlaw_1742 rfl rfl) (s_iadd (s_iload_n dlaw_1743 rfl rfl) (s_iconst dlaw_1744 rfl) dlaw_1745) dlaw_1746) rfl) dlaw_1747 w6_44)) (s_of_xI (x_callV (ts := [(0, 2), (1, 0), (2, 0), (3, 0), (4, 0), (5, 0)]) ck12 rfl kX12_gets mokX12_gets w9_164 w9_165 rfl rfl rfl rfl (a_I (ts := [(0, 2), (1, 0), (2, 0), (3, 0), (4, 0)]) 5 (a_I (ts := [(0, 2), (1, 0), (2, 0), (3, 0)]) 4 (a_I (ts := [(0, 2), (1, 0), (2, 0)]) 3 (a_I (ts := [(0, 2), (1, 0)]) 2 (a_I (ts := [(0, 2)]) 1 (a_R (ts := []) 0 a_nil (s_aload_n dlaw_1750 rfl rfl) rfl) (s_dAI (s_aload_n dlaw_1751 rfl rfl) (s_iadd (s_iload_n dlaw_1752 rfl rfl) (s_iconst dlaw_1753 rfl) dlaw_1754) dlaw_1755) rfl) (s_dAI (s_aload_n dlaw_1756 rfl rfl) (s_iadd (s_iload_n dlaw_1757 rfl rfl) (s_iconst dlaw_1758 rfl) dlaw_1759) dlaw_1760) rfl) (s_dAI (s_aload_n dlaw_1761 rfl rfl) (s_iadd (s_iload_n dlaw_1762 rfl rfl) (s_iconst dlaw_1763 rfl) dlaw_1764) dlaw_1765) rfl) (s_dAI (s_aload_n dlaw_1766 rfl rfl) (s_iadd (s_iload_n dlaw_1767 rfl rfl) (s_iconst dlaw_1768 rfl) dlaw_1769) dlaw_1770) rfl) (s_dAI (s_aload_n dlaw_1771 rfl rfl) (s_iadd (s_iload_n dlaw_1772 rfl rfl) (s_iconst dlaw_1773 rfl) dlaw_1774) dlaw_1775) rfl) dlaw_1776 w9_163)) dlaw_1779 rfl) (t_ret (cv := cvI) (fun _ _ => rfl) (s_iconst dlaw_1782 rfl) dlaw_1783) (t_skip (ld_in rfl) rfl) lda_nil (lda_cons (ld_in rfl) lda_nil)) (tn_cons (t_brk (ld_in rfl) rfl) tn_nil) (fun _ _ _ _ _ q => by cases q; exact LE.rf _))
noncomputable def Clw_48 : Sm Int32 := (dSeq (dIf (dCI r_ne (dCallV 11 DX11_chance (aI (aI (aI (aR aN 0 (vR 1)) 1 (dAI (vR 0) (d2 o_iadd (vI 3) (cI 1)))) 2 (dAI (vR 0) (d2 o_iadd (vI 3) (cI 2)))) 3 (dAI (vR 0) (d2 o_iadd (vI 3) (cI 3))))) (dCallV 12 DX12_chance (aI (aI (aI (aR aN 0 (vR 2)) 1 (dAI (vR 0) (d2 o_iadd (vI 3) (cI 1)))) 2 (dAI (vR 0) (d2 o_iadd (vI 3) (cI 2)))) 3 (dAI (vR 0) (d2 o_iadd (vI 3) (cI 3)))))) (dRet (cI 0)) dSkip) dBrk)
theorem sClw_48 : SS (cvoI, .ireturn) milaw [(0, 2), (1, 2), (2, 2), (3, 0)] [2340] [] [(0, 2), (1, 2), (2, 2), (3, 0)] [(0, 2), (1, 2), (2, 2), (3, 0)] 1784 [2340] Clw_48 := (t_seq (XA := [2340]) (Γ' := [(0, 2), (1, 2), (2, 2), (3, 0)]) (t_if (pT := 1825) (pF := 2340) (X := [2340]) (XA := []) (XB := [2340]) (c_ne_F (pF := 2340) (s_of_xI (x_callV (ts := [(0, 2), (1, 0), (2, 0), (3, 0)]) ck11 rfl kX11_chance mokX11_chance w6_49 w6_50 rfl rfl rfl rfl (a_I (ts := [(0, 2), (1, 0), (2, 0)]) 3 (a_I (ts := [(0, 2), (1, 0)]) 2 (a_I (ts := [(0, 2)]) 1 (a_R (ts := []) 0 a_nil (s_aload_n dlaw_1784 rfl rfl) rfl) (s_dAI (s_aload_n dlaw_1785 rfl rfl) (s_iadd (s_iload_n dlaw_1786 rfl rfl) (s_iconst dlaw_1787 rfl) dlaw_1788) dlaw_1789) rfl) (s_dAI (s_aload_n dlaw_1790 rfl rfl) (s_iadd (s_iload_n dlaw_1791 rfl rfl) (s_iconst dlaw_1792 rfl) dlaw_1793) dlaw_1794) rfl) (s_dAI (s_aload_n dlaw_1795 rfl rfl) (s_iadd (s_iload_n dlaw_1796 rfl rfl) (s_iconst dlaw_1797 rfl) dlaw_1798) dlaw_1799) rfl) dlaw_1800 w6_48)) (s_of_xI (x_callV (ts := [(0, 2), (1, 0), (2, 0), (3, 0)]) ck12 rfl kX12_chance mokX12_chance w9_168 w9_169 rfl rfl rfl rfl (a_I (ts := [(0, 2), (1, 0), (2, 0)]) 3 (a_I (ts := [(0, 2), (1, 0)]) 2 (a_I (ts := [(0, 2)]) 1 (a_R (ts := []) 0 a_nil (s_aload_n dlaw_1803 rfl rfl) rfl) (s_dAI (s_aload_n dlaw_1804 rfl rfl) (s_iadd (s_iload_n dlaw_1805 rfl rfl) (s_iconst dlaw_1806 rfl) dlaw_1807) dlaw_1808) rfl) (s_dAI (s_aload_n dlaw_1809 rfl rfl) (s_iadd (s_iload_n dlaw_1810 rfl rfl) (s_iconst dlaw_1811 rfl) dlaw_1812) dlaw_1813) rfl) (s_dAI (s_aload_n dlaw_1814 rfl rfl) (s_iadd (s_iload_n dlaw_1815 rfl rfl) (s_iconst dlaw_1816 rfl) dlaw_1817) dlaw_1818) rfl) dlaw_1819 w9_167)) dlaw_1822 rfl) (t_ret (cv := cvI) (fun _ _ => rfl) (s_iconst dlaw_1825 rfl) dlaw_1826) (t_skip (ld_in rfl) rfl) lda_nil (lda_cons (ld_in rfl) lda_nil)) (tn_cons (t_brk (ld_in rfl) rfl) tn_nil) (fun _ _ _ _ _ q => by cases q; exact LE.rf _))
noncomputable def Clw_49 : Sm Int32 := (dSeq (dIf (dCZ q_ne (d2 o_lcmp (dCallV 11 DX11_mean (aI (aI (aR aN 0 (vR 1)) 1 (dAI (vR 0) (d2 o_iadd (vI 3) (cI 1)))) 2 (dAI (vR 0) (d2 o_iadd (vI 3) (cI 2))))) (dCallV 12 DX12_mean (aI (aI (aR aN 0 (vR 2)) 1 (dAI (vR 0) (d2 o_iadd (vI 3) (cI 1)))) 2 (dAI (vR 0) (d2 o_iadd (vI 3) (cI 2))))))) (dRet (cI 0)) dSkip) dBrk)
theorem sClw_49 : SS (cvoI, .ireturn) milaw [(0, 2), (1, 2), (2, 2), (3, 0)] [2340] [] [(0, 2), (1, 2), (2, 2), (3, 0)] [(0, 2), (1, 2), (2, 2), (3, 0)] 1827 [2340] Clw_49 := (t_seq (XA := [2340]) (Γ' := [(0, 2), (1, 2), (2, 2), (3, 0)]) (t_if (pT := 1859) (pF := 2340) (X := [2340]) (XA := []) (XB := [2340]) (c_ne_ZF (pF := 2340) (s_lcmp (s_of_xL (x_callV (ts := [(0, 2), (1, 0), (2, 0)]) ck11 rfl kX11_mean mokX11_mean w6_82 w6_83 rfl rfl rfl rfl (a_I (ts := [(0, 2), (1, 0)]) 2 (a_I (ts := [(0, 2)]) 1 (a_R (ts := []) 0 a_nil (s_aload_n dlaw_1827 rfl rfl) rfl) (s_dAI (s_aload_n dlaw_1828 rfl rfl) (s_iadd (s_iload_n dlaw_1829 rfl rfl) (s_iconst dlaw_1830 rfl) dlaw_1831) dlaw_1832) rfl) (s_dAI (s_aload_n dlaw_1833 rfl rfl) (s_iadd (s_iload_n dlaw_1834 rfl rfl) (s_iconst dlaw_1835 rfl) dlaw_1836) dlaw_1837) rfl) dlaw_1838 w6_81)) (s_of_xL (x_callV (ts := [(0, 2), (1, 0), (2, 0)]) ck12 rfl kX12_mean mokX12_mean w9_181 w9_182 rfl rfl rfl rfl (a_I (ts := [(0, 2), (1, 0)]) 2 (a_I (ts := [(0, 2)]) 1 (a_R (ts := []) 0 a_nil (s_aload_n dlaw_1841 rfl rfl) rfl) (s_dAI (s_aload_n dlaw_1842 rfl rfl) (s_iadd (s_iload_n dlaw_1843 rfl rfl) (s_iconst dlaw_1844 rfl) dlaw_1845) dlaw_1846) rfl) (s_dAI (s_aload_n dlaw_1847 rfl rfl) (s_iadd (s_iload_n dlaw_1848 rfl rfl) (s_iconst dlaw_1849 rfl) dlaw_1850) dlaw_1851) rfl) dlaw_1852 w9_180)) dlaw_1855) dlaw_1856 rfl) (t_ret (cv := cvI) (fun _ _ => rfl) (s_iconst dlaw_1859 rfl) dlaw_1860) (t_skip (ld_in rfl) rfl) lda_nil (lda_cons (ld_in rfl) lda_nil)) (tn_cons (t_brk (ld_in rfl) rfl) tn_nil) (fun _ _ _ _ _ q => by cases q; exact LE.rf _))
noncomputable def Clw_50 : Sm Int32 := (dSeq (dIf (dCI r_ne (dCallV 11 DX11_carry (aI (aI (aI (aI (aR aN 0 (vR 1)) 1 (dAI (vR 0) (d2 o_iadd (vI 3) (cI 1)))) 2 (dAI (vR 0) (d2 o_iadd (vI 3) (cI 2)))) 3 (dAI (vR 0) (d2 o_iadd (vI 3) (cI 3)))) 4 (dAI (vR 0) (d2 o_iadd (vI 3) (cI 4))))) (dCallV 12 DX12_carry (aI (aI (aI (aI (aR aN 0 (vR 2)) 1 (dAI (vR 0) (d2 o_iadd (vI 3) (cI 1)))) 2 (dAI (vR 0) (d2 o_iadd (vI 3) (cI 2)))) 3 (dAI (vR 0) (d2 o_iadd (vI 3) (cI 3)))) 4 (dAI (vR 0) (d2 o_iadd (vI 3) (cI 4)))))) (dRet (cI 0)) dSkip) dBrk)
theorem sClw_50 : SS (cvoI, .ireturn) milaw [(0, 2), (1, 2), (2, 2), (3, 0)] [2340] [] [(0, 2), (1, 2), (2, 2), (3, 0)] [(0, 2), (1, 2), (2, 2), (3, 0)] 1861 [2340] Clw_50 := (t_seq (XA := [2340]) (Γ' := [(0, 2), (1, 2), (2, 2), (3, 0)]) (t_if (pT := 1912) (pF := 2340) (X := [2340]) (XA := []) (XB := [2340]) (c_ne_F (pF := 2340) (s_of_xI (x_callV (ts := [(0, 2), (1, 0), (2, 0), (3, 0), (4, 0)]) ck11 rfl kX11_carry mokX11_carry w6_92 w6_93 rfl rfl rfl rfl (a_I (ts := [(0, 2), (1, 0), (2, 0), (3, 0)]) 4 (a_I (ts := [(0, 2), (1, 0), (2, 0)]) 3 (a_I (ts := [(0, 2), (1, 0)]) 2 (a_I (ts := [(0, 2)]) 1 (a_R (ts := []) 0 a_nil (s_aload_n dlaw_1861 rfl rfl) rfl) (s_dAI (s_aload_n dlaw_1862 rfl rfl) (s_iadd (s_iload_n dlaw_1863 rfl rfl) (s_iconst dlaw_1864 rfl) dlaw_1865) dlaw_1866) rfl) (s_dAI (s_aload_n dlaw_1867 rfl rfl) (s_iadd (s_iload_n dlaw_1868 rfl rfl) (s_iconst dlaw_1869 rfl) dlaw_1870) dlaw_1871) rfl) (s_dAI (s_aload_n dlaw_1872 rfl rfl) (s_iadd (s_iload_n dlaw_1873 rfl rfl) (s_iconst dlaw_1874 rfl) dlaw_1875) dlaw_1876) rfl) (s_dAI (s_aload_n dlaw_1877 rfl rfl) (s_iadd (s_iload_n dlaw_1878 rfl rfl) (s_iconst dlaw_1879 rfl) dlaw_1880) dlaw_1881) rfl) dlaw_1882 w6_91)) (s_of_xI (x_callV (ts := [(0, 2), (1, 0), (2, 0), (3, 0), (4, 0)]) ck12 rfl kX12_carry mokX12_carry w9_208 w9_209 rfl rfl rfl rfl (a_I (ts := [(0, 2), (1, 0), (2, 0), (3, 0)]) 4 (a_I (ts := [(0, 2), (1, 0), (2, 0)]) 3 (a_I (ts := [(0, 2), (1, 0)]) 2 (a_I (ts := [(0, 2)]) 1 (a_R (ts := []) 0 a_nil (s_aload_n dlaw_1885 rfl rfl) rfl) (s_dAI (s_aload_n dlaw_1886 rfl rfl) (s_iadd (s_iload_n dlaw_1887 rfl rfl) (s_iconst dlaw_1888 rfl) dlaw_1889) dlaw_1890) rfl) (s_dAI (s_aload_n dlaw_1891 rfl rfl) (s_iadd (s_iload_n dlaw_1892 rfl rfl) (s_iconst dlaw_1893 rfl) dlaw_1894) dlaw_1895) rfl) (s_dAI (s_aload_n dlaw_1896 rfl rfl) (s_iadd (s_iload_n dlaw_1897 rfl rfl) (s_iconst dlaw_1898 rfl) dlaw_1899) dlaw_1900) rfl) (s_dAI (s_aload_n dlaw_1901 rfl rfl) (s_iadd (s_iload_n dlaw_1902 rfl rfl) (s_iconst dlaw_1903 rfl) dlaw_1904) dlaw_1905) rfl) dlaw_1906 w9_207)) dlaw_1909 rfl) (t_ret (cv := cvI) (fun _ _ => rfl) (s_iconst dlaw_1912 rfl) dlaw_1913) (t_skip (ld_in rfl) rfl) lda_nil (lda_cons (ld_in rfl) lda_nil)) (tn_cons (t_brk (ld_in rfl) rfl) tn_nil) (fun _ _ _ _ _ q => by cases q; exact LE.rf _))
noncomputable def Clw_51 : Sm Int32 := (dSeq (dIf (dCI r_ne (dCallV 11 DX11_rub (aI (aI (aR aN 0 (vR 1)) 1 (dAI (vR 0) (d2 o_iadd (vI 3) (cI 1)))) 2 (dAI (vR 0) (d2 o_iadd (vI 3) (cI 2))))) (dCallV 12 DX12_rub (aI (aI (aR aN 0 (vR 2)) 1 (dAI (vR 0) (d2 o_iadd (vI 3) (cI 1)))) 2 (dAI (vR 0) (d2 o_iadd (vI 3) (cI 2)))))) (dRet (cI 0)) dSkip) dBrk)
theorem sClw_51 : SS (cvoI, .ireturn) milaw [(0, 2), (1, 2), (2, 2), (3, 0)] [2340] [] [(0, 2), (1, 2), (2, 2), (3, 0)] [(0, 2), (1, 2), (2, 2), (3, 0)] 1914 [2340] Clw_51 := (t_seq (XA := [2340]) (Γ' := [(0, 2), (1, 2), (2, 2), (3, 0)]) (t_if (pT := 1945) (pF := 2340) (X := [2340]) (XA := []) (XB := [2340]) (c_ne_F (pF := 2340) (s_of_xI (x_callV (ts := [(0, 2), (1, 0), (2, 0)]) ck11 rfl kX11_rub mokX11_rub w6_101 w6_102 rfl rfl rfl rfl (a_I (ts := [(0, 2), (1, 0)]) 2 (a_I (ts := [(0, 2)]) 1 (a_R (ts := []) 0 a_nil (s_aload_n dlaw_1914 rfl rfl) rfl) (s_dAI (s_aload_n dlaw_1915 rfl rfl) (s_iadd (s_iload_n dlaw_1916 rfl rfl) (s_iconst dlaw_1917 rfl) dlaw_1918) dlaw_1919) rfl) (s_dAI (s_aload_n dlaw_1920 rfl rfl) (s_iadd (s_iload_n dlaw_1921 rfl rfl) (s_iconst dlaw_1922 rfl) dlaw_1923) dlaw_1924) rfl) dlaw_1925 w6_100)) (s_of_xI (x_callV (ts := [(0, 2), (1, 0), (2, 0)]) ck12 rfl kX12_rub mokX12_rub w9_216 w9_217 rfl rfl rfl rfl (a_I (ts := [(0, 2), (1, 0)]) 2 (a_I (ts := [(0, 2)]) 1 (a_R (ts := []) 0 a_nil (s_aload_n dlaw_1928 rfl rfl) rfl) (s_dAI (s_aload_n dlaw_1929 rfl rfl) (s_iadd (s_iload_n dlaw_1930 rfl rfl) (s_iconst dlaw_1931 rfl) dlaw_1932) dlaw_1933) rfl) (s_dAI (s_aload_n dlaw_1934 rfl rfl) (s_iadd (s_iload_n dlaw_1935 rfl rfl) (s_iconst dlaw_1936 rfl) dlaw_1937) dlaw_1938) rfl) dlaw_1939 w9_215)) dlaw_1942 rfl) (t_ret (cv := cvI) (fun _ _ => rfl) (s_iconst dlaw_1945 rfl) dlaw_1946) (t_skip (ld_in rfl) rfl) lda_nil (lda_cons (ld_in rfl) lda_nil)) (tn_cons (t_brk (ld_in rfl) rfl) tn_nil) (fun _ _ _ _ _ q => by cases q; exact LE.rf _))
noncomputable def Clw_52 : Sm Int32 := (dSeq (dIf (dCI r_ne (dCallV 11 DX11_undo (aR aN 0 (vR 1))) (dCallV 12 DX12_undo (aR aN 0 (vR 2)))) (dRet (cI 0)) dSkip) dBrk)
theorem sClw_52 : SS (cvoI, .ireturn) milaw [(0, 2), (1, 2), (2, 2), (3, 0)] [2340] [] [(0, 2), (1, 2), (2, 2), (3, 0)] [(0, 2), (1, 2), (2, 2), (3, 0)] 1947 [2340] Clw_52 := (t_seq (XA := [2340]) (Γ' := [(0, 2), (1, 2), (2, 2), (3, 0)]) (t_if (pT := 1958) (pF := 2340) (X := [2340]) (XA := []) (XB := [2340]) (c_ne_F (pF := 2340) (s_of_xI (x_callV (ts := [(0, 2)]) ck11 rfl kX11_undo mokX11_undo w6_106 w6_107 rfl rfl rfl rfl (a_R (ts := []) 0 a_nil (s_aload_n dlaw_1947 rfl rfl) rfl) dlaw_1948 w6_105)) (s_of_xI (x_callV (ts := [(0, 2)]) ck12 rfl kX12_undo mokX12_undo w9_220 w9_221 rfl rfl rfl rfl (a_R (ts := []) 0 a_nil (s_aload_n dlaw_1951 rfl rfl) rfl) dlaw_1952 w9_219)) dlaw_1955 rfl) (t_ret (cv := cvI) (fun _ _ => rfl) (s_iconst dlaw_1958 rfl) dlaw_1959) (t_skip (ld_in rfl) rfl) lda_nil (lda_cons (ld_in rfl) lda_nil)) (tn_cons (t_brk (ld_in rfl) rfl) tn_nil) (fun _ _ _ _ _ q => by cases q; exact LE.rf _))
noncomputable def Clw_53 : Sm Int32 := (dSeq (dIf (dCI r_ne (dCallV 11 DX11_anew (aR aN 0 (vR 1))) (dCallV 12 DX12_anew (aR aN 0 (vR 2)))) (dRet (cI 0)) dSkip) dBrk)
theorem sClw_53 : SS (cvoI, .ireturn) milaw [(0, 2), (1, 2), (2, 2), (3, 0)] [2340] [] [(0, 2), (1, 2), (2, 2), (3, 0)] [(0, 2), (1, 2), (2, 2), (3, 0)] 1960 [2340] Clw_53 := (t_seq (XA := [2340]) (Γ' := [(0, 2), (1, 2), (2, 2), (3, 0)]) (t_if (pT := 1971) (pF := 2340) (X := [2340]) (XA := []) (XB := [2340]) (c_ne_F (pF := 2340) (s_of_xI (x_callV (ts := [(0, 2)]) ck11 rfl kX11_anew mokX11_anew w6_114 w6_115 rfl rfl rfl rfl (a_R (ts := []) 0 a_nil (s_aload_n dlaw_1960 rfl rfl) rfl) dlaw_1961 w6_113)) (s_of_xI (x_callV (ts := [(0, 2)]) ck12 rfl kX12_anew mokX12_anew w9_224 w9_225 rfl rfl rfl rfl (a_R (ts := []) 0 a_nil (s_aload_n dlaw_1964 rfl rfl) rfl) dlaw_1965 w9_223)) dlaw_1968 rfl) (t_ret (cv := cvI) (fun _ _ => rfl) (s_iconst dlaw_1971 rfl) dlaw_1972) (t_skip (ld_in rfl) rfl) lda_nil (lda_cons (ld_in rfl) lda_nil)) (tn_cons (t_brk (ld_in rfl) rfl) tn_nil) (fun _ _ _ _ _ q => by cases q; exact LE.rf _))
noncomputable def Clw_54 : Sm Int32 := (dSeq (dIf (dCI r_ne (dCallV 11 DX11_drawn (aI (aI (aR aN 0 (vR 1)) 1 (dAI (vR 0) (d2 o_iadd (vI 3) (cI 1)))) 2 (dAI (vR 0) (d2 o_iadd (vI 3) (cI 2))))) (dCallV 12 DX12_drawn (aI (aI (aR aN 0 (vR 2)) 1 (dAI (vR 0) (d2 o_iadd (vI 3) (cI 1)))) 2 (dAI (vR 0) (d2 o_iadd (vI 3) (cI 2)))))) (dRet (cI 0)) dSkip) dBrk)
theorem sClw_54 : SS (cvoI, .ireturn) milaw [(0, 2), (1, 2), (2, 2), (3, 0)] [2340] [] [(0, 2), (1, 2), (2, 2), (3, 0)] [(0, 2), (1, 2), (2, 2), (3, 0)] 1973 [2340] Clw_54 := (t_seq (XA := [2340]) (Γ' := [(0, 2), (1, 2), (2, 2), (3, 0)]) (t_if (pT := 2004) (pF := 2340) (X := [2340]) (XA := []) (XB := [2340]) (c_ne_F (pF := 2340) (s_of_xI (x_callV (ts := [(0, 2), (1, 0), (2, 0)]) ck11 rfl kX11_drawn mokX11_drawn w6_118 w6_119 rfl rfl rfl rfl (a_I (ts := [(0, 2), (1, 0)]) 2 (a_I (ts := [(0, 2)]) 1 (a_R (ts := []) 0 a_nil (s_aload_n dlaw_1973 rfl rfl) rfl) (s_dAI (s_aload_n dlaw_1974 rfl rfl) (s_iadd (s_iload_n dlaw_1975 rfl rfl) (s_iconst dlaw_1976 rfl) dlaw_1977) dlaw_1978) rfl) (s_dAI (s_aload_n dlaw_1979 rfl rfl) (s_iadd (s_iload_n dlaw_1980 rfl rfl) (s_iconst dlaw_1981 rfl) dlaw_1982) dlaw_1983) rfl) dlaw_1984 w6_117)) (s_of_xI (x_callV (ts := [(0, 2), (1, 0), (2, 0)]) ck12 rfl kX12_drawn mokX12_drawn w9_187 w9_188 rfl rfl rfl rfl (a_I (ts := [(0, 2), (1, 0)]) 2 (a_I (ts := [(0, 2)]) 1 (a_R (ts := []) 0 a_nil (s_aload_n dlaw_1987 rfl rfl) rfl) (s_dAI (s_aload_n dlaw_1988 rfl rfl) (s_iadd (s_iload_n dlaw_1989 rfl rfl) (s_iconst dlaw_1990 rfl) dlaw_1991) dlaw_1992) rfl) (s_dAI (s_aload_n dlaw_1993 rfl rfl) (s_iadd (s_iload_n dlaw_1994 rfl rfl) (s_iconst dlaw_1995 rfl) dlaw_1996) dlaw_1997) rfl) dlaw_1998 w9_186)) dlaw_2001 rfl) (t_ret (cv := cvI) (fun _ _ => rfl) (s_iconst dlaw_2004 rfl) dlaw_2005) (t_skip (ld_in rfl) rfl) lda_nil (lda_cons (ld_in rfl) lda_nil)) (tn_cons (t_brk (ld_in rfl) rfl) tn_nil) (fun _ _ _ _ _ q => by cases q; exact LE.rf _))
noncomputable def Clw_55 : Sm Int32 := (dSeq (dIf (dCI r_ne (dCallV 11 DX11_luck (aI (aI (aI (aI (aR aN 0 (vR 1)) 1 (dAI (vR 0) (d2 o_iadd (vI 3) (cI 1)))) 2 (dAI (vR 0) (d2 o_iadd (vI 3) (cI 2)))) 3 (dAI (vR 0) (d2 o_iadd (vI 3) (cI 3)))) 4 (dAI (vR 0) (d2 o_iadd (vI 3) (cI 4))))) (dCallV 12 DX12_luck (aI (aI (aI (aI (aR aN 0 (vR 2)) 1 (dAI (vR 0) (d2 o_iadd (vI 3) (cI 1)))) 2 (dAI (vR 0) (d2 o_iadd (vI 3) (cI 2)))) 3 (dAI (vR 0) (d2 o_iadd (vI 3) (cI 3)))) 4 (dAI (vR 0) (d2 o_iadd (vI 3) (cI 4)))))) (dRet (cI 0)) dSkip) dBrk)
theorem sClw_55 : SS (cvoI, .ireturn) milaw [(0, 2), (1, 2), (2, 2), (3, 0)] [2340] [] [(0, 2), (1, 2), (2, 2), (3, 0)] [(0, 2), (1, 2), (2, 2), (3, 0)] 2006 [2340] Clw_55 := (t_seq (XA := [2340]) (Γ' := [(0, 2), (1, 2), (2, 2), (3, 0)]) (t_if (pT := 2057) (pF := 2340) (X := [2340]) (XA := []) (XB := [2340]) (c_ne_F (pF := 2340) (s_of_xI (x_callV (ts := [(0, 2), (1, 0), (2, 0), (3, 0), (4, 0)]) ck11 rfl kX11_luck mokX11_luck w6_139 w6_140 rfl rfl rfl rfl (a_I (ts := [(0, 2), (1, 0), (2, 0), (3, 0)]) 4 (a_I (ts := [(0, 2), (1, 0), (2, 0)]) 3 (a_I (ts := [(0, 2), (1, 0)]) 2 (a_I (ts := [(0, 2)]) 1 (a_R (ts := []) 0 a_nil (s_aload_n dlaw_2006 rfl rfl) rfl) (s_dAI (s_aload_n dlaw_2007 rfl rfl) (s_iadd (s_iload_n dlaw_2008 rfl rfl) (s_iconst dlaw_2009 rfl) dlaw_2010) dlaw_2011) rfl) (s_dAI (s_aload_n dlaw_2012 rfl rfl) (s_iadd (s_iload_n dlaw_2013 rfl rfl) (s_iconst dlaw_2014 rfl) dlaw_2015) dlaw_2016) rfl) (s_dAI (s_aload_n dlaw_2017 rfl rfl) (s_iadd (s_iload_n dlaw_2018 rfl rfl) (s_iconst dlaw_2019 rfl) dlaw_2020) dlaw_2021) rfl) (s_dAI (s_aload_n dlaw_2022 rfl rfl) (s_iadd (s_iload_n dlaw_2023 rfl rfl) (s_iconst dlaw_2024 rfl) dlaw_2025) dlaw_2026) rfl) dlaw_2027 w6_138)) (s_of_xI (x_callV (ts := [(0, 2), (1, 0), (2, 0), (3, 0), (4, 0)]) ck12 rfl kX12_luck mokX12_luck w9_203 w9_204 rfl rfl rfl rfl (a_I (ts := [(0, 2), (1, 0), (2, 0), (3, 0)]) 4 (a_I (ts := [(0, 2), (1, 0), (2, 0)]) 3 (a_I (ts := [(0, 2), (1, 0)]) 2 (a_I (ts := [(0, 2)]) 1 (a_R (ts := []) 0 a_nil (s_aload_n dlaw_2030 rfl rfl) rfl) (s_dAI (s_aload_n dlaw_2031 rfl rfl) (s_iadd (s_iload_n dlaw_2032 rfl rfl) (s_iconst dlaw_2033 rfl) dlaw_2034) dlaw_2035) rfl) (s_dAI (s_aload_n dlaw_2036 rfl rfl) (s_iadd (s_iload_n dlaw_2037 rfl rfl) (s_iconst dlaw_2038 rfl) dlaw_2039) dlaw_2040) rfl) (s_dAI (s_aload_n dlaw_2041 rfl rfl) (s_iadd (s_iload_n dlaw_2042 rfl rfl) (s_iconst dlaw_2043 rfl) dlaw_2044) dlaw_2045) rfl) (s_dAI (s_aload_n dlaw_2046 rfl rfl) (s_iadd (s_iload_n dlaw_2047 rfl rfl) (s_iconst dlaw_2048 rfl) dlaw_2049) dlaw_2050) rfl) dlaw_2051 w9_202)) dlaw_2054 rfl) (t_ret (cv := cvI) (fun _ _ => rfl) (s_iconst dlaw_2057 rfl) dlaw_2058) (t_skip (ld_in rfl) rfl) lda_nil (lda_cons (ld_in rfl) lda_nil)) (tn_cons (t_brk (ld_in rfl) rfl) tn_nil) (fun _ _ _ _ _ q => by cases q; exact LE.rf _))
noncomputable def Clw_56 : Sm Int32 := (dSeq (dIf (dCI r_ne (dCallV 11 DX11_rate (aI (aI (aR aN 0 (vR 1)) 1 (dAI (vR 0) (d2 o_iadd (vI 3) (cI 1)))) 2 (dAI (vR 0) (d2 o_iadd (vI 3) (cI 2))))) (dCallV 12 DX12_rate (aI (aI (aR aN 0 (vR 2)) 1 (dAI (vR 0) (d2 o_iadd (vI 3) (cI 1)))) 2 (dAI (vR 0) (d2 o_iadd (vI 3) (cI 2)))))) (dRet (cI 0)) dSkip) dBrk)
theorem sClw_56 : SS (cvoI, .ireturn) milaw [(0, 2), (1, 2), (2, 2), (3, 0)] [2340] [] [(0, 2), (1, 2), (2, 2), (3, 0)] [(0, 2), (1, 2), (2, 2), (3, 0)] 2059 [2340] Clw_56 := (t_seq (XA := [2340]) (Γ' := [(0, 2), (1, 2), (2, 2), (3, 0)]) (t_if (pT := 2090) (pF := 2340) (X := [2340]) (XA := []) (XB := [2340]) (c_ne_F (pF := 2340) (s_of_xI (x_callV (ts := [(0, 2), (1, 0), (2, 0)]) ck11 rfl kX11_rate mokX11_rate w6_143 w6_144 rfl rfl rfl rfl (a_I (ts := [(0, 2), (1, 0)]) 2 (a_I (ts := [(0, 2)]) 1 (a_R (ts := []) 0 a_nil (s_aload_n dlaw_2059 rfl rfl) rfl) (s_dAI (s_aload_n dlaw_2060 rfl rfl) (s_iadd (s_iload_n dlaw_2061 rfl rfl) (s_iconst dlaw_2062 rfl) dlaw_2063) dlaw_2064) rfl) (s_dAI (s_aload_n dlaw_2065 rfl rfl) (s_iadd (s_iload_n dlaw_2066 rfl rfl) (s_iconst dlaw_2067 rfl) dlaw_2068) dlaw_2069) rfl) dlaw_2070 w6_142)) (s_of_xI (x_callV (ts := [(0, 2), (1, 0), (2, 0)]) ck12 rfl kX12_rate mokX12_rate w9_228 w9_229 rfl rfl rfl rfl (a_I (ts := [(0, 2), (1, 0)]) 2 (a_I (ts := [(0, 2)]) 1 (a_R (ts := []) 0 a_nil (s_aload_n dlaw_2073 rfl rfl) rfl) (s_dAI (s_aload_n dlaw_2074 rfl rfl) (s_iadd (s_iload_n dlaw_2075 rfl rfl) (s_iconst dlaw_2076 rfl) dlaw_2077) dlaw_2078) rfl) (s_dAI (s_aload_n dlaw_2079 rfl rfl) (s_iadd (s_iload_n dlaw_2080 rfl rfl) (s_iconst dlaw_2081 rfl) dlaw_2082) dlaw_2083) rfl) dlaw_2084 w9_227)) dlaw_2087 rfl) (t_ret (cv := cvI) (fun _ _ => rfl) (s_iconst dlaw_2090 rfl) dlaw_2091) (t_skip (ld_in rfl) rfl) lda_nil (lda_cons (ld_in rfl) lda_nil)) (tn_cons (t_brk (ld_in rfl) rfl) tn_nil) (fun _ _ _ _ _ q => by cases q; exact LE.rf _))
noncomputable def Clw_57 : Sm Int32 := (dSeq (dIf (dCI r_ne (dCallV 11 DX11_count (aI (aR aN 0 (vR 1)) 1 (dAI (vR 0) (d2 o_iadd (vI 3) (cI 1))))) (dCallV 12 DX12_count (aI (aR aN 0 (vR 2)) 1 (dAI (vR 0) (d2 o_iadd (vI 3) (cI 1)))))) (dRet (cI 0)) dSkip) dBrk)
theorem sClw_57 : SS (cvoI, .ireturn) milaw [(0, 2), (1, 2), (2, 2), (3, 0)] [2340] [] [(0, 2), (1, 2), (2, 2), (3, 0)] [(0, 2), (1, 2), (2, 2), (3, 0)] 2092 [2340] Clw_57 := (t_seq (XA := [2340]) (Γ' := [(0, 2), (1, 2), (2, 2), (3, 0)]) (t_if (pT := 2113) (pF := 2340) (X := [2340]) (XA := []) (XB := [2340]) (c_ne_F (pF := 2340) (s_of_xI (x_callV (ts := [(0, 2), (1, 0)]) ck11 rfl kX11_count mokX11_count w6_147 w6_148 rfl rfl rfl rfl (a_I (ts := [(0, 2)]) 1 (a_R (ts := []) 0 a_nil (s_aload_n dlaw_2092 rfl rfl) rfl) (s_dAI (s_aload_n dlaw_2093 rfl rfl) (s_iadd (s_iload_n dlaw_2094 rfl rfl) (s_iconst dlaw_2095 rfl) dlaw_2096) dlaw_2097) rfl) dlaw_2098 w6_146)) (s_of_xI (x_callV (ts := [(0, 2), (1, 0)]) ck12 rfl kX12_count mokX12_count w9_233 w9_234 rfl rfl rfl rfl (a_I (ts := [(0, 2)]) 1 (a_R (ts := []) 0 a_nil (s_aload_n dlaw_2101 rfl rfl) rfl) (s_dAI (s_aload_n dlaw_2102 rfl rfl) (s_iadd (s_iload_n dlaw_2103 rfl rfl) (s_iconst dlaw_2104 rfl) dlaw_2105) dlaw_2106) rfl) dlaw_2107 w9_232)) dlaw_2110 rfl) (t_ret (cv := cvI) (fun _ _ => rfl) (s_iconst dlaw_2113 rfl) dlaw_2114) (t_skip (ld_in rfl) rfl) lda_nil (lda_cons (ld_in rfl) lda_nil)) (tn_cons (t_brk (ld_in rfl) rfl) tn_nil) (fun _ _ _ _ _ q => by cases q; exact LE.rf _))
noncomputable def Clw_58 : Sm Int32 := (dSeq (dIf (dCI r_ne (dCallV 11 DX11_image (aI (aR aN 0 (vR 1)) 1 (dAI (vR 0) (d2 o_iadd (vI 3) (cI 1))))) (dCallV 12 DX12_image (aI (aR aN 0 (vR 2)) 1 (dAI (vR 0) (d2 o_iadd (vI 3) (cI 1)))))) (dRet (cI 0)) dSkip) dBrk)
theorem sClw_58 : SS (cvoI, .ireturn) milaw [(0, 2), (1, 2), (2, 2), (3, 0)] [2340] [] [(0, 2), (1, 2), (2, 2), (3, 0)] [(0, 2), (1, 2), (2, 2), (3, 0)] 2115 [2340] Clw_58 := (t_seq (XA := [2340]) (Γ' := [(0, 2), (1, 2), (2, 2), (3, 0)]) (t_if (pT := 2136) (pF := 2340) (X := [2340]) (XA := []) (XB := [2340]) (c_ne_F (pF := 2340) (s_of_xI (x_callV (ts := [(0, 2), (1, 0)]) ck11 rfl kX11_image mokX11_image w6_156 w6_157 rfl rfl rfl rfl (a_I (ts := [(0, 2)]) 1 (a_R (ts := []) 0 a_nil (s_aload_n dlaw_2115 rfl rfl) rfl) (s_dAI (s_aload_n dlaw_2116 rfl rfl) (s_iadd (s_iload_n dlaw_2117 rfl rfl) (s_iconst dlaw_2118 rfl) dlaw_2119) dlaw_2120) rfl) dlaw_2121 w6_155)) (s_of_xI (x_callV (ts := [(0, 2), (1, 0)]) ck12 rfl kX12_image mokX12_image w9_238 w9_239 rfl rfl rfl rfl (a_I (ts := [(0, 2)]) 1 (a_R (ts := []) 0 a_nil (s_aload_n dlaw_2124 rfl rfl) rfl) (s_dAI (s_aload_n dlaw_2125 rfl rfl) (s_iadd (s_iload_n dlaw_2126 rfl rfl) (s_iconst dlaw_2127 rfl) dlaw_2128) dlaw_2129) rfl) dlaw_2130 w9_237)) dlaw_2133 rfl) (t_ret (cv := cvI) (fun _ _ => rfl) (s_iconst dlaw_2136 rfl) dlaw_2137) (t_skip (ld_in rfl) rfl) lda_nil (lda_cons (ld_in rfl) lda_nil)) (tn_cons (t_brk (ld_in rfl) rfl) tn_nil) (fun _ _ _ _ _ q => by cases q; exact LE.rf _))
noncomputable def Clw_59 : Sm Int32 := (dSeq (dIf (dCI r_ne (dCallV 11 DX11_back (aI (aR aN 0 (vR 1)) 1 (dAI (vR 0) (d2 o_iadd (vI 3) (cI 1))))) (dCallV 12 DX12_back (aI (aR aN 0 (vR 2)) 1 (dAI (vR 0) (d2 o_iadd (vI 3) (cI 1)))))) (dRet (cI 0)) dSkip) dBrk)
theorem sClw_59 : SS (cvoI, .ireturn) milaw [(0, 2), (1, 2), (2, 2), (3, 0)] [2340] [] [(0, 2), (1, 2), (2, 2), (3, 0)] [(0, 2), (1, 2), (2, 2), (3, 0)] 2138 [2340] Clw_59 := (t_seq (XA := [2340]) (Γ' := [(0, 2), (1, 2), (2, 2), (3, 0)]) (t_if (pT := 2159) (pF := 2340) (X := [2340]) (XA := []) (XB := [2340]) (c_ne_F (pF := 2340) (s_of_xI (x_callV (ts := [(0, 2), (1, 0)]) ck11 rfl kX11_back mokX11_back w6_160 w6_161 rfl rfl rfl rfl (a_I (ts := [(0, 2)]) 1 (a_R (ts := []) 0 a_nil (s_aload_n dlaw_2138 rfl rfl) rfl) (s_dAI (s_aload_n dlaw_2139 rfl rfl) (s_iadd (s_iload_n dlaw_2140 rfl rfl) (s_iconst dlaw_2141 rfl) dlaw_2142) dlaw_2143) rfl) dlaw_2144 w6_159)) (s_of_xI (x_callV (ts := [(0, 2), (1, 0)]) ck12 rfl kX12_back mokX12_back w10_3 w10_4 rfl rfl rfl rfl (a_I (ts := [(0, 2)]) 1 (a_R (ts := []) 0 a_nil (s_aload_n dlaw_2147 rfl rfl) rfl) (s_dAI (s_aload_n dlaw_2148 rfl rfl) (s_iadd (s_iload_n dlaw_2149 rfl rfl) (s_iconst dlaw_2150 rfl) dlaw_2151) dlaw_2152) rfl) dlaw_2153 w10_2)) dlaw_2156 rfl) (t_ret (cv := cvI) (fun _ _ => rfl) (s_iconst dlaw_2159 rfl) dlaw_2160) (t_skip (ld_in rfl) rfl) lda_nil (lda_cons (ld_in rfl) lda_nil)) (tn_cons (t_brk (ld_in rfl) rfl) tn_nil) (fun _ _ _ _ _ q => by cases q; exact LE.rf _))
noncomputable def Clw_60 : Sm Int32 := (dSeq (dIf (dCI r_ne (dCallV 11 DX11_row (aI (aI (aI (aR aN 0 (vR 1)) 1 (dAI (vR 0) (d2 o_iadd (vI 3) (cI 1)))) 2 (dAI (vR 0) (d2 o_iadd (vI 3) (cI 2)))) 3 (dAI (vR 0) (d2 o_iadd (vI 3) (cI 3))))) (dCallV 12 DX12_row (aI (aI (aI (aR aN 0 (vR 2)) 1 (dAI (vR 0) (d2 o_iadd (vI 3) (cI 1)))) 2 (dAI (vR 0) (d2 o_iadd (vI 3) (cI 2)))) 3 (dAI (vR 0) (d2 o_iadd (vI 3) (cI 3)))))) (dRet (cI 0)) dSkip) dBrk)
theorem sClw_60 : SS (cvoI, .ireturn) milaw [(0, 2), (1, 2), (2, 2), (3, 0)] [2340] [] [(0, 2), (1, 2), (2, 2), (3, 0)] [(0, 2), (1, 2), (2, 2), (3, 0)] 2161 [2340] Clw_60 := (t_seq (XA := [2340]) (Γ' := [(0, 2), (1, 2), (2, 2), (3, 0)]) (t_if (pT := 2202) (pF := 2340) (X := [2340]) (XA := []) (XB := [2340]) (c_ne_F (pF := 2340) (s_of_xI (x_callV (ts := [(0, 2), (1, 0), (2, 0), (3, 0)]) ck11 rfl kX11_row mokX11_row w6_164 w6_165 rfl rfl rfl rfl (a_I (ts := [(0, 2), (1, 0), (2, 0)]) 3 (a_I (ts := [(0, 2), (1, 0)]) 2 (a_I (ts := [(0, 2)]) 1 (a_R (ts := []) 0 a_nil (s_aload_n dlaw_2161 rfl rfl) rfl) (s_dAI (s_aload_n dlaw_2162 rfl rfl) (s_iadd (s_iload_n dlaw_2163 rfl rfl) (s_iconst dlaw_2164 rfl) dlaw_2165) dlaw_2166) rfl) (s_dAI (s_aload_n dlaw_2167 rfl rfl) (s_iadd (s_iload_n dlaw_2168 rfl rfl) (s_iconst dlaw_2169 rfl) dlaw_2170) dlaw_2171) rfl) (s_dAI (s_aload_n dlaw_2172 rfl rfl) (s_iadd (s_iload_n dlaw_2173 rfl rfl) (s_iconst dlaw_2174 rfl) dlaw_2175) dlaw_2176) rfl) dlaw_2177 w6_163)) (s_of_xI (x_callV (ts := [(0, 2), (1, 0), (2, 0), (3, 0)]) ck12 rfl kX12_row mokX12_row w7_133 w7_134 rfl rfl rfl rfl (a_I (ts := [(0, 2), (1, 0), (2, 0)]) 3 (a_I (ts := [(0, 2), (1, 0)]) 2 (a_I (ts := [(0, 2)]) 1 (a_R (ts := []) 0 a_nil (s_aload_n dlaw_2180 rfl rfl) rfl) (s_dAI (s_aload_n dlaw_2181 rfl rfl) (s_iadd (s_iload_n dlaw_2182 rfl rfl) (s_iconst dlaw_2183 rfl) dlaw_2184) dlaw_2185) rfl) (s_dAI (s_aload_n dlaw_2186 rfl rfl) (s_iadd (s_iload_n dlaw_2187 rfl rfl) (s_iconst dlaw_2188 rfl) dlaw_2189) dlaw_2190) rfl) (s_dAI (s_aload_n dlaw_2191 rfl rfl) (s_iadd (s_iload_n dlaw_2192 rfl rfl) (s_iconst dlaw_2193 rfl) dlaw_2194) dlaw_2195) rfl) dlaw_2196 w7_132)) dlaw_2199 rfl) (t_ret (cv := cvI) (fun _ _ => rfl) (s_iconst dlaw_2202 rfl) dlaw_2203) (t_skip (ld_in rfl) rfl) lda_nil (lda_cons (ld_in rfl) lda_nil)) (tn_cons (t_brk (ld_in rfl) rfl) tn_nil) (fun _ _ _ _ _ q => by cases q; exact LE.rf _))
noncomputable def Clw_61 : Sm Int32 := (dSeq (dIf (dCI r_ne (dCallV 11 DX11_write (aL (aI (aI (aR aN 0 (vR 1)) 1 (dAI (vR 0) (d2 o_iadd (vI 3) (cI 1)))) 2 (dAI (vR 0) (d2 o_iadd (vI 3) (cI 2)))) 3 (d2 o_lor (d2 o_lshl (d1 o_i2l (dAI (vR 0) (d2 o_iadd (vI 3) (cI 3)))) (cI 32)) (d2 o_land (d1 o_i2l (dAI (vR 0) (d2 o_iadd (vI 3) (cI 4)))) (cL 4294967295))))) (dCallV 12 DX12_write (aL (aI (aI (aR aN 0 (vR 2)) 1 (dAI (vR 0) (d2 o_iadd (vI 3) (cI 1)))) 2 (dAI (vR 0) (d2 o_iadd (vI 3) (cI 2)))) 3 (d2 o_lor (d2 o_lshl (d1 o_i2l (dAI (vR 0) (d2 o_iadd (vI 3) (cI 3)))) (cI 32)) (d2 o_land (d1 o_i2l (dAI (vR 0) (d2 o_iadd (vI 3) (cI 4)))) (cL 4294967295)))))) (dRet (cI 0)) dSkip) dBrk)
theorem sClw_61 : SS (cvoI, .ireturn) milaw [(0, 2), (1, 2), (2, 2), (3, 0)] [2340] [] [(0, 2), (1, 2), (2, 2), (3, 0)] [(0, 2), (1, 2), (2, 2), (3, 0)] 2204 [2340] Clw_61 := (t_seq (XA := [2340]) (Γ' := [(0, 2), (1, 2), (2, 2), (3, 0)]) (t_if (pT := 2275) (pF := 2340) (X := [2340]) (XA := []) (XB := [2340]) (c_ne_F (pF := 2340) (s_of_xI (x_callV (ts := [(0, 2), (1, 0), (2, 0), (3, 1)]) ck11 rfl kX11_write mokX11_write w6_182 w6_183 rfl rfl rfl rfl (a_L (ts := [(0, 2), (1, 0), (2, 0)]) 3 (a_I (ts := [(0, 2), (1, 0)]) 2 (a_I (ts := [(0, 2)]) 1 (a_R (ts := []) 0 a_nil (s_aload_n dlaw_2204 rfl rfl) rfl) (s_dAI (s_aload_n dlaw_2205 rfl rfl) (s_iadd (s_iload_n dlaw_2206 rfl rfl) (s_iconst dlaw_2207 rfl) dlaw_2208) dlaw_2209) rfl) (s_dAI (s_aload_n dlaw_2210 rfl rfl) (s_iadd (s_iload_n dlaw_2211 rfl rfl) (s_iconst dlaw_2212 rfl) dlaw_2213) dlaw_2214) rfl) (s_lor (s_lshl (s_i2l (s_dAI (s_aload_n dlaw_2215 rfl rfl) (s_iadd (s_iload_n dlaw_2216 rfl rfl) (s_iconst dlaw_2217 rfl) dlaw_2218) dlaw_2219) dlaw_2220) (s_bipush dlaw_2221 rfl) dlaw_2223) (s_land (s_i2l (s_dAI (s_aload_n dlaw_2224 rfl rfl) (s_iadd (s_iload_n dlaw_2225 rfl rfl) (s_iconst dlaw_2226 rfl) dlaw_2227) dlaw_2228) dlaw_2229) (s_ldc2 dlaw_2230 w10_6) dlaw_2233) dlaw_2234) rfl) dlaw_2235 w6_181)) (s_of_xI (x_callV (ts := [(0, 2), (1, 0), (2, 0), (3, 1)]) ck12 rfl kX12_write mokX12_write w7_144 w7_145 rfl rfl rfl rfl (a_L (ts := [(0, 2), (1, 0), (2, 0)]) 3 (a_I (ts := [(0, 2), (1, 0)]) 2 (a_I (ts := [(0, 2)]) 1 (a_R (ts := []) 0 a_nil (s_aload_n dlaw_2238 rfl rfl) rfl) (s_dAI (s_aload_n dlaw_2239 rfl rfl) (s_iadd (s_iload_n dlaw_2240 rfl rfl) (s_iconst dlaw_2241 rfl) dlaw_2242) dlaw_2243) rfl) (s_dAI (s_aload_n dlaw_2244 rfl rfl) (s_iadd (s_iload_n dlaw_2245 rfl rfl) (s_iconst dlaw_2246 rfl) dlaw_2247) dlaw_2248) rfl) (s_lor (s_lshl (s_i2l (s_dAI (s_aload_n dlaw_2249 rfl rfl) (s_iadd (s_iload_n dlaw_2250 rfl rfl) (s_iconst dlaw_2251 rfl) dlaw_2252) dlaw_2253) dlaw_2254) (s_bipush dlaw_2255 rfl) dlaw_2257) (s_land (s_i2l (s_dAI (s_aload_n dlaw_2258 rfl rfl) (s_iadd (s_iload_n dlaw_2259 rfl rfl) (s_iconst dlaw_2260 rfl) dlaw_2261) dlaw_2262) dlaw_2263) (s_ldc2 dlaw_2264 w10_6) dlaw_2267) dlaw_2268) rfl) dlaw_2269 w7_143)) dlaw_2272 rfl) (t_ret (cv := cvI) (fun _ _ => rfl) (s_iconst dlaw_2275 rfl) dlaw_2276) (t_skip (ld_in rfl) rfl) lda_nil (lda_cons (ld_in rfl) lda_nil)) (tn_cons (t_brk (ld_in rfl) rfl) tn_nil) (fun _ _ _ _ _ q => by cases q; exact LE.rf _))
noncomputable def Clw_62 : Sm Int32 := (dSeq (dIf (dCI r_ne (dCallV 11 DX11_paste (aI (aI (aI (aI (aI (aR aN 0 (vR 1)) 1 (dAI (vR 0) (d2 o_iadd (vI 3) (cI 1)))) 2 (dAI (vR 0) (d2 o_iadd (vI 3) (cI 2)))) 3 (dAI (vR 0) (d2 o_iadd (vI 3) (cI 3)))) 4 (dAI (vR 0) (d2 o_iadd (vI 3) (cI 4)))) 5 (dAI (vR 0) (d2 o_iadd (vI 3) (cI 5))))) (dCallV 12 DX12_paste (aI (aI (aI (aI (aI (aR aN 0 (vR 2)) 1 (dAI (vR 0) (d2 o_iadd (vI 3) (cI 1)))) 2 (dAI (vR 0) (d2 o_iadd (vI 3) (cI 2)))) 3 (dAI (vR 0) (d2 o_iadd (vI 3) (cI 3)))) 4 (dAI (vR 0) (d2 o_iadd (vI 3) (cI 4)))) 5 (dAI (vR 0) (d2 o_iadd (vI 3) (cI 5)))))) (dRet (cI 0)) dSkip) dBrk)
theorem sClw_62 : SS (cvoI, .ireturn) milaw [(0, 2), (1, 2), (2, 2), (3, 0)] [2340] [] [(0, 2), (1, 2), (2, 2), (3, 0)] [(0, 2), (1, 2), (2, 2), (3, 0)] 2277 [2340] Clw_62 := (t_seq (XA := [2340]) (Γ' := [(0, 2), (1, 2), (2, 2), (3, 0)]) (t_if (pT := 2338) (pF := 2340) (X := [2340]) (XA := []) (XB := [2340]) (c_ne_F (pF := 2340) (s_of_xI (x_callV (ts := [(0, 2), (1, 0), (2, 0), (3, 0), (4, 0), (5, 0)]) ck11 rfl kX11_paste mokX11_paste w6_187 w6_188 rfl rfl rfl rfl (a_I (ts := [(0, 2), (1, 0), (2, 0), (3, 0), (4, 0)]) 5 (a_I (ts := [(0, 2), (1, 0), (2, 0), (3, 0)]) 4 (a_I (ts := [(0, 2), (1, 0), (2, 0)]) 3 (a_I (ts := [(0, 2), (1, 0)]) 2 (a_I (ts := [(0, 2)]) 1 (a_R (ts := []) 0 a_nil (s_aload_n dlaw_2277 rfl rfl) rfl) (s_dAI (s_aload_n dlaw_2278 rfl rfl) (s_iadd (s_iload_n dlaw_2279 rfl rfl) (s_iconst dlaw_2280 rfl) dlaw_2281) dlaw_2282) rfl) (s_dAI (s_aload_n dlaw_2283 rfl rfl) (s_iadd (s_iload_n dlaw_2284 rfl rfl) (s_iconst dlaw_2285 rfl) dlaw_2286) dlaw_2287) rfl) (s_dAI (s_aload_n dlaw_2288 rfl rfl) (s_iadd (s_iload_n dlaw_2289 rfl rfl) (s_iconst dlaw_2290 rfl) dlaw_2291) dlaw_2292) rfl) (s_dAI (s_aload_n dlaw_2293 rfl rfl) (s_iadd (s_iload_n dlaw_2294 rfl rfl) (s_iconst dlaw_2295 rfl) dlaw_2296) dlaw_2297) rfl) (s_dAI (s_aload_n dlaw_2298 rfl rfl) (s_iadd (s_iload_n dlaw_2299 rfl rfl) (s_iconst dlaw_2300 rfl) dlaw_2301) dlaw_2302) rfl) dlaw_2303 w6_186)) (s_of_xI (x_callV (ts := [(0, 2), (1, 0), (2, 0), (3, 0), (4, 0), (5, 0)]) ck12 rfl kX12_paste mokX12_paste w7_151 w7_152 rfl rfl rfl rfl (a_I (ts := [(0, 2), (1, 0), (2, 0), (3, 0), (4, 0)]) 5 (a_I (ts := [(0, 2), (1, 0), (2, 0), (3, 0)]) 4 (a_I (ts := [(0, 2), (1, 0), (2, 0)]) 3 (a_I (ts := [(0, 2), (1, 0)]) 2 (a_I (ts := [(0, 2)]) 1 (a_R (ts := []) 0 a_nil (s_aload_n dlaw_2306 rfl rfl) rfl) (s_dAI (s_aload_n dlaw_2307 rfl rfl) (s_iadd (s_iload_n dlaw_2308 rfl rfl) (s_iconst dlaw_2309 rfl) dlaw_2310) dlaw_2311) rfl) (s_dAI (s_aload_n dlaw_2312 rfl rfl) (s_iadd (s_iload_n dlaw_2313 rfl rfl) (s_iconst dlaw_2314 rfl) dlaw_2315) dlaw_2316) rfl) (s_dAI (s_aload_n dlaw_2317 rfl rfl) (s_iadd (s_iload_n dlaw_2318 rfl rfl) (s_iconst dlaw_2319 rfl) dlaw_2320) dlaw_2321) rfl) (s_dAI (s_aload_n dlaw_2322 rfl rfl) (s_iadd (s_iload_n dlaw_2323 rfl rfl) (s_iconst dlaw_2324 rfl) dlaw_2325) dlaw_2326) rfl) (s_dAI (s_aload_n dlaw_2327 rfl rfl) (s_iadd (s_iload_n dlaw_2328 rfl rfl) (s_iconst dlaw_2329 rfl) dlaw_2330) dlaw_2331) rfl) dlaw_2332 w7_150)) dlaw_2335 rfl) (t_ret (cv := cvI) (fun _ _ => rfl) (s_iconst dlaw_2338 rfl) dlaw_2339) (t_skip (ld_in rfl) rfl) lda_nil (lda_cons (ld_in rfl) lda_nil)) (tn_cons (t_brk (ld_in rfl) rfl) tn_nil) (fun _ _ _ _ _ q => by cases q; exact LE.rf _))
noncomputable def Llaw_1 : Sm Int32 := dLoop (fun f => (sI (sR (sR (sR fr0 0 (gR f 0)) 1 (gR f 1)) 2 (gR f 2)) 3 (gI f 3))) (dCI r_le (vI 3) (d2 o_isub (dLen (vR 0)) (cI 6))) (dSw 0 (d2 o_iand (dAI (vR 0) (vI 3)) (cI 63)) [Clw_0, Clw_1, Clw_2, Clw_3, Clw_4, Clw_5, Clw_6, Clw_7, Clw_8, Clw_9, Clw_10, Clw_11, Clw_12, Clw_13, Clw_14, Clw_15, Clw_16, Clw_17, Clw_18, Clw_19, Clw_20, Clw_21, Clw_22, Clw_23, Clw_24, Clw_25, Clw_26, Clw_27, Clw_28, Clw_29, Clw_30, Clw_31, Clw_32, Clw_33, Clw_34, Clw_35, Clw_36, Clw_37, Clw_38, Clw_39, Clw_40, Clw_41, Clw_42, Clw_43, Clw_44, Clw_45, Clw_46, Clw_47, Clw_48, Clw_49, Clw_50, Clw_51, Clw_52, Clw_53, Clw_54, Clw_55, Clw_56, Clw_57, Clw_58, Clw_59, Clw_60, Clw_61, Clw_62] dSkip) (dInc 3 6)
theorem sLlaw_1 {ΓL : Gm} {PB PK : List Nat} : SS (cvoI, .ireturn) milaw ΓL PB PK [(0, 2), (1, 2), (2, 2), (3, 0)] [(0, 2), (1, 2), (2, 2), (3, 0)] 18 [2346] Llaw_1 := t_loop (pT := 27) (pF := 2346) (pu := 2340) (PB' := []) (PK' := []) (XB := [2340]) (XU := [2343]) (fun _ _ => rfl) rfl (c_le_F (pF := 2346) (s_iload_n dlaw_18 rfl rfl) (s_isub (s_len (s_aload_n dlaw_19 rfl rfl) dlaw_20) (s_bipush dlaw_21 rfl) dlaw_23) dlaw_24 rfl) (t_sw (PK := []) (X := [2340]) (ps := [300, 363, 386, 399, 422, 445, 478, 511, 534, 567, 600, 633, 666, 699, 732, 775, 808, 841, 874, 897, 910, 933, 956, 979, 1002, 1025, 1048, 1071, 1084, 1097, 1140, 1183, 1216, 1249, 1282, 1325, 1368, 1401, 1444, 1467, 1500, 1523, 1556, 1589, 1622, 1655, 1678, 1721, 1784, 1827, 1861, 1914, 1947, 1960, 1973, 2006, 2059, 2092, 2115, 2138, 2161, 2204, 2277]) (lo := 0) (pD := 2340) (s_iand (s_dAI (s_aload_n dlaw_27 rfl rfl) (s_iload_n dlaw_28 rfl rfl) dlaw_29) (s_bipush dlaw_30 rfl) dlaw_32) dlaw_33 rfl rfl rfl ⟨sClw_0, ⟨sClw_1, ⟨sClw_2, ⟨sClw_3, ⟨sClw_4, ⟨sClw_5, ⟨sClw_6, ⟨sClw_7, ⟨sClw_8, ⟨sClw_9, ⟨sClw_10, ⟨sClw_11, ⟨sClw_12, ⟨sClw_13, ⟨sClw_14, ⟨sClw_15, ⟨sClw_16, ⟨sClw_17, ⟨sClw_18, ⟨sClw_19, ⟨sClw_20, ⟨sClw_21, ⟨sClw_22, ⟨sClw_23, ⟨sClw_24, ⟨sClw_25, ⟨sClw_26, ⟨sClw_27, ⟨sClw_28, ⟨sClw_29, ⟨sClw_30, ⟨sClw_31, ⟨sClw_32, ⟨sClw_33, ⟨sClw_34, ⟨sClw_35, ⟨sClw_36, ⟨sClw_37, ⟨sClw_38, ⟨sClw_39, ⟨sClw_40, ⟨sClw_41, ⟨sClw_42, ⟨sClw_43, ⟨sClw_44, ⟨sClw_45, ⟨sClw_46, ⟨sClw_47, ⟨sClw_48, ⟨sClw_49, ⟨sClw_50, ⟨sClw_51, ⟨sClw_52, ⟨sClw_53, ⟨sClw_54, ⟨sClw_55, ⟨sClw_56, ⟨sClw_57, ⟨sClw_58, ⟨sClw_59, ⟨sClw_60, ⟨sClw_61, ⟨sClw_62, trivial⟩⟩⟩⟩⟩⟩⟩⟩⟩⟩⟩⟩⟩⟩⟩⟩⟩⟩⟩⟩⟩⟩⟩⟩⟩⟩⟩⟩⟩⟩⟩⟩⟩⟩⟩⟩⟩⟩⟩⟩⟩⟩⟩⟩⟩⟩⟩⟩⟩⟩⟩⟩⟩⟩⟩⟩⟩⟩⟩⟩⟩⟩⟩ (t_skip (ld_in rfl) rfl) rfl) (t_iinc dlaw_2340 rfl rfl rfl rfl) (lda_cons (ld_in rfl) lda_nil) lda_nil (lda_cons (ld_goto (y := 18) dlaw_2343 rfl (ld_in rfl)) lda_nil) (ld_in rfl) lda_nil
noncomputable def Blaw : Sm Int32 := (dSeq (dSetR 1 (dNewC 11 DX11_init)) (dSeq (dSetR 2 (dNewC 12 DX12_init)) (dSeq (dSeq (dSetI 3 (cI 0)) Llaw_1) (dRet (cI 1)))))
theorem sBlaw : SS (cvoI, .ireturn) milaw [] [] [] [(0, 2)] [(0, 2)] 0 [] Blaw := (t_sq (p1 := 8) (Γ' := [(0, 2), (1, 2)]) (t_astore_n (s_newP ck11 kX11_init mokX11_init rfl w1_25 w1_22 w1_23 w1_1 df11 rfl rfl dlaw_0 dlaw_3 dlaw_4 w1_24 rfl) dlaw_7 rfl rfl rfl) (t_sq (p1 := 16) (Γ' := [(0, 2), (1, 2), (2, 2)]) (t_astore_n (s_newP ck12 kX12_init mokX12_init rfl w6_202 w6_199 w6_200 w1_13 df12 rfl rfl dlaw_8 dlaw_11 dlaw_12 w6_201 rfl) dlaw_15 rfl rfl rfl) (t_sq (p1 := 2346) (Γ' := [(0, 2), (1, 2), (2, 2)]) (t_sq (p1 := 18) (Γ' := [(0, 2), (1, 2), (2, 2), (3, 0)]) (t_istore_n (s_iconst dlaw_16 rfl) dlaw_17 rfl rfl rfl) (tn_to (Γ' := [(0, 2), (1, 2), (2, 2), (3, 0)]) (XA := [2346]) sLlaw_1 (lda_cons (ld_in rfl) lda_nil) rfl)) (t_ret (cv := cvI) (fun _ _ => rfl) (s_iconst dlaw_2346 rfl) dlaw_2347))))
