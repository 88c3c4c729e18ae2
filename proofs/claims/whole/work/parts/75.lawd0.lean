/-! printed: the law's cases 0 to 7, decoded; their words -/
theorem dL_law_40 : decode cL_law 40 = .ok (.tableswitch 3222 0 63 #[272, 345, 401, 414, 482, 538, 630, 698, 754, 846, 914, 982, 1038, 1094, 1150, 1218, 1286, 1354, 1410, 1423, 1436, 1449, 1493, 1506, 1519, 1532, 1545, 1558, 1571, 1584, 1640, 1703, 1759, 1815, 1871, 1884, 1940, 1996, 2052, 2108, 2164, 2227, 2283, 2339, 2395, 2451, 2507, 2520, 2576, 2639, 2707, 2775, 2831, 2911, 2979, 2992, 3005, 3018, 3031, 3044, 3085, 3128, 3141, 3197], 272) := by decide +kernel
theorem dL_law_312 : decode cL_law 312 = .ok (.aload_n 1, 1) := by decide +kernel
theorem dL_law_313 : decode cL_law 313 = .ok (.aload_n 0, 1) := by decide +kernel
theorem dL_law_314 : decode cL_law 314 = .ok (.iload 4, 2) := by decide +kernel
theorem dL_law_316 : decode cL_law 316 = .ok (.iconst 1, 1) := by decide +kernel
theorem dL_law_317 : decode cL_law 317 = .ok (.iadd, 1) := by decide +kernel
theorem dL_law_318 : decode cL_law 318 = .ok (.iaload, 1) := by decide +kernel
theorem dL_law_319 : decode cL_law 319 = .ok (.aload_n 0, 1) := by decide +kernel
theorem dL_law_320 : decode cL_law 320 = .ok (.iload 4, 2) := by decide +kernel
theorem dL_law_322 : decode cL_law 322 = .ok (.iconst 2, 1) := by decide +kernel
theorem dL_law_323 : decode cL_law 323 = .ok (.iadd, 1) := by decide +kernel
theorem dL_law_324 : decode cL_law 324 = .ok (.iaload, 1) := by decide +kernel
theorem dL_law_325 : decode cL_law 325 = .ok (.aload_n 0, 1) := by decide +kernel
theorem dL_law_326 : decode cL_law 326 = .ok (.iload 4, 2) := by decide +kernel
theorem dL_law_328 : decode cL_law 328 = .ok (.iconst 3, 1) := by decide +kernel
theorem dL_law_329 : decode cL_law 329 = .ok (.iadd, 1) := by decide +kernel
theorem dL_law_330 : decode cL_law 330 = .ok (.iaload, 1) := by decide +kernel
theorem dL_law_331 : decode cL_law 331 = .ok (.aload_n 0, 1) := by decide +kernel
theorem dL_law_332 : decode cL_law 332 = .ok (.iload 4, 2) := by decide +kernel
theorem dL_law_334 : decode cL_law 334 = .ok (.iconst 4, 1) := by decide +kernel
theorem dL_law_335 : decode cL_law 335 = .ok (.iadd, 1) := by decide +kernel
theorem dL_law_336 : decode cL_law 336 = .ok (.iaload, 1) := by decide +kernel
theorem dL_law_337 : decode cL_law 337 = .ok (.aload_n 0, 1) := by decide +kernel
theorem dL_law_338 : decode cL_law 338 = .ok (.iload 4, 2) := by decide +kernel
theorem dL_law_340 : decode cL_law 340 = .ok (.iconst 5, 1) := by decide +kernel
theorem dL_law_341 : decode cL_law 341 = .ok (.iadd, 1) := by decide +kernel
theorem dL_law_342 : decode cL_law 342 = .ok (.iaload, 1) := by decide +kernel
theorem dL_law_343 : decode cL_law 343 = .ok (.invokevirtual 150, 3) := by decide +kernel
theorem dL_law_346 : decode cL_law 346 = .ok (.aload_n 2, 1) := by decide +kernel
theorem dL_law_347 : decode cL_law 347 = .ok (.aload_n 0, 1) := by decide +kernel
theorem dL_law_348 : decode cL_law 348 = .ok (.iload 4, 2) := by decide +kernel
theorem dL_law_350 : decode cL_law 350 = .ok (.iconst 1, 1) := by decide +kernel
theorem dL_law_351 : decode cL_law 351 = .ok (.iadd, 1) := by decide +kernel
theorem dL_law_352 : decode cL_law 352 = .ok (.iaload, 1) := by decide +kernel
theorem dL_law_353 : decode cL_law 353 = .ok (.aload_n 0, 1) := by decide +kernel
theorem dL_law_354 : decode cL_law 354 = .ok (.iload 4, 2) := by decide +kernel
theorem dL_law_356 : decode cL_law 356 = .ok (.iconst 2, 1) := by decide +kernel
theorem dL_law_357 : decode cL_law 357 = .ok (.iadd, 1) := by decide +kernel
theorem dL_law_358 : decode cL_law 358 = .ok (.iaload, 1) := by decide +kernel
theorem dL_law_359 : decode cL_law 359 = .ok (.aload_n 0, 1) := by decide +kernel
theorem dL_law_360 : decode cL_law 360 = .ok (.iload 4, 2) := by decide +kernel
theorem dL_law_362 : decode cL_law 362 = .ok (.iconst 3, 1) := by decide +kernel
theorem dL_law_363 : decode cL_law 363 = .ok (.iadd, 1) := by decide +kernel
theorem dL_law_364 : decode cL_law 364 = .ok (.iaload, 1) := by decide +kernel
theorem dL_law_365 : decode cL_law 365 = .ok (.aload_n 0, 1) := by decide +kernel
theorem dL_law_366 : decode cL_law 366 = .ok (.iload 4, 2) := by decide +kernel
theorem dL_law_368 : decode cL_law 368 = .ok (.iconst 4, 1) := by decide +kernel
theorem dL_law_369 : decode cL_law 369 = .ok (.iadd, 1) := by decide +kernel
theorem dL_law_370 : decode cL_law 370 = .ok (.iaload, 1) := by decide +kernel
theorem dL_law_371 : decode cL_law 371 = .ok (.aload_n 0, 1) := by decide +kernel
theorem dL_law_372 : decode cL_law 372 = .ok (.iload 4, 2) := by decide +kernel
theorem dL_law_374 : decode cL_law 374 = .ok (.iconst 5, 1) := by decide +kernel
theorem dL_law_375 : decode cL_law 375 = .ok (.iadd, 1) := by decide +kernel
theorem dL_law_376 : decode cL_law 376 = .ok (.iaload, 1) := by decide +kernel
theorem dL_law_377 : decode cL_law 377 = .ok (.invokevirtual 154, 3) := by decide +kernel
theorem dL_law_380 : decode cL_law 380 = .ok (.if_icmp .eq 2882, 3) := by decide +kernel
theorem dL_law_385 : decode cL_law 385 = .ok (.aload_n 1, 1) := by decide +kernel
theorem dL_law_386 : decode cL_law 386 = .ok (.aload_n 0, 1) := by decide +kernel
theorem dL_law_387 : decode cL_law 387 = .ok (.iload 4, 2) := by decide +kernel
theorem dL_law_389 : decode cL_law 389 = .ok (.iconst 1, 1) := by decide +kernel
theorem dL_law_390 : decode cL_law 390 = .ok (.iadd, 1) := by decide +kernel
theorem dL_law_391 : decode cL_law 391 = .ok (.iaload, 1) := by decide +kernel
theorem dL_law_392 : decode cL_law 392 = .ok (.aload_n 3, 1) := by decide +kernel
theorem dL_law_393 : decode cL_law 393 = .ok (.invokestatic 155, 3) := by decide +kernel
theorem dL_law_396 : decode cL_law 396 = .ok (.istore 5, 2) := by decide +kernel
theorem dL_law_398 : decode cL_law 398 = .ok (.aload_n 2, 1) := by decide +kernel
theorem dL_law_399 : decode cL_law 399 = .ok (.aload_n 0, 1) := by decide +kernel
theorem dL_law_400 : decode cL_law 400 = .ok (.iload 4, 2) := by decide +kernel
theorem dL_law_402 : decode cL_law 402 = .ok (.iconst 1, 1) := by decide +kernel
theorem dL_law_403 : decode cL_law 403 = .ok (.iadd, 1) := by decide +kernel
theorem dL_law_404 : decode cL_law 404 = .ok (.iaload, 1) := by decide +kernel
theorem dL_law_405 : decode cL_law 405 = .ok (.invokevirtual 160, 3) := by decide +kernel
theorem dL_law_408 : decode cL_law 408 = .ok (.istore 6, 2) := by decide +kernel
theorem dL_law_410 : decode cL_law 410 = .ok (.aload_n 2, 1) := by decide +kernel
theorem dL_law_411 : decode cL_law 411 = .ok (.invokevirtual 161, 3) := by decide +kernel
theorem dL_law_414 : decode cL_law 414 = .ok (.iload 5, 2) := by decide +kernel
theorem dL_law_416 : decode cL_law 416 = .ok (.if_icmp .eq 5, 3) := by decide +kernel
theorem dL_law_421 : decode cL_law 421 = .ok (.iload 5, 2) := by decide +kernel
theorem dL_law_423 : decode cL_law 423 = .ok (.ifCond .ne 15, 3) := by decide +kernel
theorem dL_law_426 : decode cL_law 426 = .ok (.aload_n 3, 1) := by decide +kernel
theorem dL_law_427 : decode cL_law 427 = .ok (.iconst 0, 1) := by decide +kernel
theorem dL_law_428 : decode cL_law 428 = .ok (.laload, 1) := by decide +kernel
theorem dL_law_429 : decode cL_law 429 = .ok (.iload 6, 2) := by decide +kernel
theorem dL_law_431 : decode cL_law 431 = .ok (.i2l, 1) := by decide +kernel
theorem dL_law_432 : decode cL_law 432 = .ok (.lcmp, 1) := by decide +kernel
theorem dL_law_433 : decode cL_law 433 = .ok (.ifCond .eq 5, 3) := by decide +kernel
theorem dL_law_438 : decode cL_law 438 = .ok (.goto 2824, 3) := by decide +kernel
theorem dL_law_441 : decode cL_law 441 = .ok (.aload_n 1, 1) := by decide +kernel
theorem dL_law_442 : decode cL_law 442 = .ok (.invokevirtual 164, 3) := by decide +kernel
theorem dL_law_445 : decode cL_law 445 = .ok (.aload_n 2, 1) := by decide +kernel
theorem dL_law_446 : decode cL_law 446 = .ok (.invokevirtual 167, 3) := by decide +kernel
theorem dL_law_449 : decode cL_law 449 = .ok (.if_icmp .eq 2813, 3) := by decide +kernel
theorem dL_law_454 : decode cL_law 454 = .ok (.aload_n 1, 1) := by decide +kernel
theorem dL_law_455 : decode cL_law 455 = .ok (.aload_n 0, 1) := by decide +kernel
theorem dL_law_456 : decode cL_law 456 = .ok (.iload 4, 2) := by decide +kernel
theorem dL_law_458 : decode cL_law 458 = .ok (.iconst 1, 1) := by decide +kernel
theorem dL_law_459 : decode cL_law 459 = .ok (.iadd, 1) := by decide +kernel
theorem dL_law_460 : decode cL_law 460 = .ok (.iaload, 1) := by decide +kernel
theorem dL_law_461 : decode cL_law 461 = .ok (.aload_n 0, 1) := by decide +kernel
theorem dL_law_462 : decode cL_law 462 = .ok (.iload 4, 2) := by decide +kernel
theorem dL_law_464 : decode cL_law 464 = .ok (.iconst 2, 1) := by decide +kernel
theorem dL_law_465 : decode cL_law 465 = .ok (.iadd, 1) := by decide +kernel
theorem dL_law_466 : decode cL_law 466 = .ok (.iaload, 1) := by decide +kernel
theorem dL_law_467 : decode cL_law 467 = .ok (.aload_n 3, 1) := by decide +kernel
theorem dL_law_468 : decode cL_law 468 = .ok (.invokestatic 168, 3) := by decide +kernel
theorem dL_law_471 : decode cL_law 471 = .ok (.istore 5, 2) := by decide +kernel
theorem dL_law_473 : decode cL_law 473 = .ok (.aload_n 2, 1) := by decide +kernel
theorem dL_law_474 : decode cL_law 474 = .ok (.aload_n 0, 1) := by decide +kernel
theorem dL_law_475 : decode cL_law 475 = .ok (.iload 4, 2) := by decide +kernel
theorem dL_law_477 : decode cL_law 477 = .ok (.iconst 1, 1) := by decide +kernel
theorem dL_law_478 : decode cL_law 478 = .ok (.iadd, 1) := by decide +kernel
theorem dL_law_479 : decode cL_law 479 = .ok (.iaload, 1) := by decide +kernel
theorem dL_law_480 : decode cL_law 480 = .ok (.aload_n 0, 1) := by decide +kernel
theorem dL_law_481 : decode cL_law 481 = .ok (.iload 4, 2) := by decide +kernel
theorem dL_law_483 : decode cL_law 483 = .ok (.iconst 2, 1) := by decide +kernel
theorem dL_law_484 : decode cL_law 484 = .ok (.iadd, 1) := by decide +kernel
theorem dL_law_485 : decode cL_law 485 = .ok (.iaload, 1) := by decide +kernel
theorem dL_law_486 : decode cL_law 486 = .ok (.invokevirtual 171, 3) := by decide +kernel
theorem dL_law_489 : decode cL_law 489 = .ok (.istore 6, 2) := by decide +kernel
theorem dL_law_491 : decode cL_law 491 = .ok (.aload_n 2, 1) := by decide +kernel
theorem dL_law_492 : decode cL_law 492 = .ok (.invokevirtual 161, 3) := by decide +kernel
theorem dL_law_495 : decode cL_law 495 = .ok (.iload 5, 2) := by decide +kernel
theorem dL_law_497 : decode cL_law 497 = .ok (.if_icmp .eq 5, 3) := by decide +kernel
theorem dL_law_502 : decode cL_law 502 = .ok (.iload 5, 2) := by decide +kernel
theorem dL_law_504 : decode cL_law 504 = .ok (.ifCond .ne 15, 3) := by decide +kernel
theorem dL_law_507 : decode cL_law 507 = .ok (.aload_n 3, 1) := by decide +kernel
theorem dL_law_508 : decode cL_law 508 = .ok (.iconst 0, 1) := by decide +kernel
theorem dL_law_509 : decode cL_law 509 = .ok (.laload, 1) := by decide +kernel
theorem dL_law_510 : decode cL_law 510 = .ok (.iload 6, 2) := by decide +kernel
theorem dL_law_512 : decode cL_law 512 = .ok (.i2l, 1) := by decide +kernel
theorem dL_law_513 : decode cL_law 513 = .ok (.lcmp, 1) := by decide +kernel
theorem dL_law_514 : decode cL_law 514 = .ok (.ifCond .eq 5, 3) := by decide +kernel
theorem dL_law_519 : decode cL_law 519 = .ok (.goto 2743, 3) := by decide +kernel
theorem dL_law_522 : decode cL_law 522 = .ok (.aload_n 1, 1) := by decide +kernel
theorem dL_law_523 : decode cL_law 523 = .ok (.aload_n 0, 1) := by decide +kernel
theorem dL_law_524 : decode cL_law 524 = .ok (.iload 4, 2) := by decide +kernel
theorem dL_law_526 : decode cL_law 526 = .ok (.iconst 1, 1) := by decide +kernel
theorem dL_law_527 : decode cL_law 527 = .ok (.iadd, 1) := by decide +kernel
theorem dL_law_528 : decode cL_law 528 = .ok (.iaload, 1) := by decide +kernel
theorem dL_law_529 : decode cL_law 529 = .ok (.aload_n 3, 1) := by decide +kernel
theorem dL_law_530 : decode cL_law 530 = .ok (.invokestatic 172, 3) := by decide +kernel
theorem dL_law_533 : decode cL_law 533 = .ok (.istore 5, 2) := by decide +kernel
theorem dL_law_535 : decode cL_law 535 = .ok (.aload_n 2, 1) := by decide +kernel
theorem dL_law_536 : decode cL_law 536 = .ok (.aload_n 0, 1) := by decide +kernel
theorem dL_law_537 : decode cL_law 537 = .ok (.iload 4, 2) := by decide +kernel
theorem dL_law_539 : decode cL_law 539 = .ok (.iconst 1, 1) := by decide +kernel
theorem dL_law_540 : decode cL_law 540 = .ok (.iadd, 1) := by decide +kernel
theorem dL_law_541 : decode cL_law 541 = .ok (.iaload, 1) := by decide +kernel
theorem dL_law_542 : decode cL_law 542 = .ok (.invokevirtual 174, 3) := by decide +kernel
theorem dL_law_545 : decode cL_law 545 = .ok (.istore 6, 2) := by decide +kernel
theorem dL_law_547 : decode cL_law 547 = .ok (.aload_n 2, 1) := by decide +kernel
theorem dL_law_548 : decode cL_law 548 = .ok (.invokevirtual 161, 3) := by decide +kernel
theorem dL_law_551 : decode cL_law 551 = .ok (.iload 5, 2) := by decide +kernel
theorem dL_law_553 : decode cL_law 553 = .ok (.if_icmp .eq 5, 3) := by decide +kernel
theorem dL_law_558 : decode cL_law 558 = .ok (.iload 5, 2) := by decide +kernel
theorem dL_law_560 : decode cL_law 560 = .ok (.ifCond .ne 15, 3) := by decide +kernel
theorem dL_law_563 : decode cL_law 563 = .ok (.aload_n 3, 1) := by decide +kernel
theorem dL_law_564 : decode cL_law 564 = .ok (.iconst 0, 1) := by decide +kernel
theorem dL_law_565 : decode cL_law 565 = .ok (.laload, 1) := by decide +kernel
theorem dL_law_566 : decode cL_law 566 = .ok (.iload 6, 2) := by decide +kernel
theorem dL_law_568 : decode cL_law 568 = .ok (.i2l, 1) := by decide +kernel
theorem dL_law_569 : decode cL_law 569 = .ok (.lcmp, 1) := by decide +kernel
theorem dL_law_570 : decode cL_law 570 = .ok (.ifCond .eq 5, 3) := by decide +kernel
theorem dL_law_575 : decode cL_law 575 = .ok (.goto 2687, 3) := by decide +kernel
theorem dL_law_578 : decode cL_law 578 = .ok (.aload_n 1, 1) := by decide +kernel
theorem dL_law_579 : decode cL_law 579 = .ok (.aload_n 0, 1) := by decide +kernel
theorem dL_law_580 : decode cL_law 580 = .ok (.iload 4, 2) := by decide +kernel
theorem dL_law_582 : decode cL_law 582 = .ok (.iconst 1, 1) := by decide +kernel
theorem dL_law_583 : decode cL_law 583 = .ok (.iadd, 1) := by decide +kernel
theorem dL_law_584 : decode cL_law 584 = .ok (.iaload, 1) := by decide +kernel
theorem dL_law_585 : decode cL_law 585 = .ok (.aload_n 0, 1) := by decide +kernel
theorem dL_law_586 : decode cL_law 586 = .ok (.iload 4, 2) := by decide +kernel
theorem dL_law_588 : decode cL_law 588 = .ok (.iconst 2, 1) := by decide +kernel
theorem dL_law_589 : decode cL_law 589 = .ok (.iadd, 1) := by decide +kernel
theorem dL_law_590 : decode cL_law 590 = .ok (.iaload, 1) := by decide +kernel
theorem dL_law_591 : decode cL_law 591 = .ok (.aload_n 0, 1) := by decide +kernel
theorem dL_law_592 : decode cL_law 592 = .ok (.iload 4, 2) := by decide +kernel
theorem dL_law_594 : decode cL_law 594 = .ok (.iconst 3, 1) := by decide +kernel
theorem dL_law_595 : decode cL_law 595 = .ok (.iadd, 1) := by decide +kernel
theorem dL_law_596 : decode cL_law 596 = .ok (.iaload, 1) := by decide +kernel
theorem dL_law_597 : decode cL_law 597 = .ok (.aload_n 0, 1) := by decide +kernel
theorem dL_law_598 : decode cL_law 598 = .ok (.iload 4, 2) := by decide +kernel
theorem dL_law_600 : decode cL_law 600 = .ok (.iconst 4, 1) := by decide +kernel
theorem dL_law_601 : decode cL_law 601 = .ok (.iadd, 1) := by decide +kernel
theorem dL_law_602 : decode cL_law 602 = .ok (.iaload, 1) := by decide +kernel
theorem dL_law_603 : decode cL_law 603 = .ok (.aload_n 3, 1) := by decide +kernel
theorem dL_law_604 : decode cL_law 604 = .ok (.invokestatic 175, 3) := by decide +kernel
theorem dL_law_607 : decode cL_law 607 = .ok (.istore 5, 2) := by decide +kernel
theorem dL_law_609 : decode cL_law 609 = .ok (.aload_n 2, 1) := by decide +kernel
theorem dL_law_610 : decode cL_law 610 = .ok (.aload_n 0, 1) := by decide +kernel
theorem dL_law_611 : decode cL_law 611 = .ok (.iload 4, 2) := by decide +kernel
theorem dL_law_613 : decode cL_law 613 = .ok (.iconst 1, 1) := by decide +kernel
theorem dL_law_614 : decode cL_law 614 = .ok (.iadd, 1) := by decide +kernel
theorem dL_law_615 : decode cL_law 615 = .ok (.iaload, 1) := by decide +kernel
theorem dL_law_616 : decode cL_law 616 = .ok (.aload_n 0, 1) := by decide +kernel
theorem dL_law_617 : decode cL_law 617 = .ok (.iload 4, 2) := by decide +kernel
theorem dL_law_619 : decode cL_law 619 = .ok (.iconst 2, 1) := by decide +kernel
theorem dL_law_620 : decode cL_law 620 = .ok (.iadd, 1) := by decide +kernel
theorem dL_law_621 : decode cL_law 621 = .ok (.iaload, 1) := by decide +kernel
theorem dL_law_622 : decode cL_law 622 = .ok (.aload_n 0, 1) := by decide +kernel
theorem dL_law_623 : decode cL_law 623 = .ok (.iload 4, 2) := by decide +kernel
theorem dL_law_625 : decode cL_law 625 = .ok (.iconst 3, 1) := by decide +kernel
theorem dL_law_626 : decode cL_law 626 = .ok (.iadd, 1) := by decide +kernel
theorem dL_law_627 : decode cL_law 627 = .ok (.iaload, 1) := by decide +kernel
theorem dL_law_628 : decode cL_law 628 = .ok (.aload_n 0, 1) := by decide +kernel
theorem dL_law_629 : decode cL_law 629 = .ok (.iload 4, 2) := by decide +kernel
theorem dL_law_631 : decode cL_law 631 = .ok (.iconst 4, 1) := by decide +kernel
theorem dL_law_632 : decode cL_law 632 = .ok (.iadd, 1) := by decide +kernel
theorem dL_law_633 : decode cL_law 633 = .ok (.iaload, 1) := by decide +kernel
theorem dL_law_634 : decode cL_law 634 = .ok (.invokevirtual 178, 3) := by decide +kernel
theorem dL_law_637 : decode cL_law 637 = .ok (.istore 6, 2) := by decide +kernel
theorem dL_law_639 : decode cL_law 639 = .ok (.aload_n 2, 1) := by decide +kernel
theorem dL_law_640 : decode cL_law 640 = .ok (.invokevirtual 161, 3) := by decide +kernel
theorem dL_law_643 : decode cL_law 643 = .ok (.iload 5, 2) := by decide +kernel
theorem dL_law_645 : decode cL_law 645 = .ok (.if_icmp .eq 5, 3) := by decide +kernel
theorem dL_law_650 : decode cL_law 650 = .ok (.iload 5, 2) := by decide +kernel
theorem dL_law_652 : decode cL_law 652 = .ok (.ifCond .ne 15, 3) := by decide +kernel
theorem dL_law_655 : decode cL_law 655 = .ok (.aload_n 3, 1) := by decide +kernel
theorem dL_law_656 : decode cL_law 656 = .ok (.iconst 0, 1) := by decide +kernel
theorem dL_law_657 : decode cL_law 657 = .ok (.laload, 1) := by decide +kernel
theorem dL_law_658 : decode cL_law 658 = .ok (.iload 6, 2) := by decide +kernel
theorem dL_law_660 : decode cL_law 660 = .ok (.i2l, 1) := by decide +kernel
theorem dL_law_661 : decode cL_law 661 = .ok (.lcmp, 1) := by decide +kernel
theorem dL_law_662 : decode cL_law 662 = .ok (.ifCond .eq 5, 3) := by decide +kernel
theorem dL_law_667 : decode cL_law 667 = .ok (.goto 2595, 3) := by decide +kernel
theorem dL_law_670 : decode cL_law 670 = .ok (.aload_n 1, 1) := by decide +kernel
theorem dL_law_671 : decode cL_law 671 = .ok (.aload_n 0, 1) := by decide +kernel
theorem dL_law_672 : decode cL_law 672 = .ok (.iload 4, 2) := by decide +kernel
theorem dL_law_674 : decode cL_law 674 = .ok (.iconst 1, 1) := by decide +kernel
theorem dL_law_675 : decode cL_law 675 = .ok (.iadd, 1) := by decide +kernel
theorem dL_law_676 : decode cL_law 676 = .ok (.iaload, 1) := by decide +kernel
theorem dL_law_677 : decode cL_law 677 = .ok (.aload_n 0, 1) := by decide +kernel
theorem dL_law_678 : decode cL_law 678 = .ok (.iload 4, 2) := by decide +kernel
theorem dL_law_680 : decode cL_law 680 = .ok (.iconst 2, 1) := by decide +kernel
theorem dL_law_681 : decode cL_law 681 = .ok (.iadd, 1) := by decide +kernel
theorem dL_law_682 : decode cL_law 682 = .ok (.iaload, 1) := by decide +kernel
theorem dL_law_683 : decode cL_law 683 = .ok (.aload_n 3, 1) := by decide +kernel
theorem dL_law_684 : decode cL_law 684 = .ok (.invokestatic 179, 3) := by decide +kernel
theorem dL_law_687 : decode cL_law 687 = .ok (.istore 5, 2) := by decide +kernel
theorem dL_law_689 : decode cL_law 689 = .ok (.aload_n 2, 1) := by decide +kernel
theorem dL_law_690 : decode cL_law 690 = .ok (.aload_n 0, 1) := by decide +kernel
theorem dL_law_691 : decode cL_law 691 = .ok (.iload 4, 2) := by decide +kernel
theorem dL_law_693 : decode cL_law 693 = .ok (.iconst 1, 1) := by decide +kernel
theorem dL_law_694 : decode cL_law 694 = .ok (.iadd, 1) := by decide +kernel
theorem dL_law_695 : decode cL_law 695 = .ok (.iaload, 1) := by decide +kernel
theorem dL_law_696 : decode cL_law 696 = .ok (.aload_n 0, 1) := by decide +kernel
theorem dL_law_697 : decode cL_law 697 = .ok (.iload 4, 2) := by decide +kernel
theorem dL_law_699 : decode cL_law 699 = .ok (.iconst 2, 1) := by decide +kernel
theorem dL_law_700 : decode cL_law 700 = .ok (.iadd, 1) := by decide +kernel
theorem dL_law_701 : decode cL_law 701 = .ok (.iaload, 1) := by decide +kernel
theorem dL_law_702 : decode cL_law 702 = .ok (.invokevirtual 181, 3) := by decide +kernel
theorem dL_law_705 : decode cL_law 705 = .ok (.istore 6, 2) := by decide +kernel
theorem dL_law_707 : decode cL_law 707 = .ok (.aload_n 2, 1) := by decide +kernel
theorem dL_law_708 : decode cL_law 708 = .ok (.invokevirtual 161, 3) := by decide +kernel
theorem dL_law_711 : decode cL_law 711 = .ok (.iload 5, 2) := by decide +kernel
theorem dL_law_713 : decode cL_law 713 = .ok (.if_icmp .eq 5, 3) := by decide +kernel
theorem dL_law_718 : decode cL_law 718 = .ok (.iload 5, 2) := by decide +kernel
theorem dL_law_720 : decode cL_law 720 = .ok (.ifCond .ne 15, 3) := by decide +kernel
theorem dL_law_723 : decode cL_law 723 = .ok (.aload_n 3, 1) := by decide +kernel
theorem dL_law_724 : decode cL_law 724 = .ok (.iconst 0, 1) := by decide +kernel
theorem dL_law_725 : decode cL_law 725 = .ok (.laload, 1) := by decide +kernel
theorem dL_law_726 : decode cL_law 726 = .ok (.iload 6, 2) := by decide +kernel
theorem dL_law_728 : decode cL_law 728 = .ok (.i2l, 1) := by decide +kernel
theorem dL_law_729 : decode cL_law 729 = .ok (.lcmp, 1) := by decide +kernel
theorem dL_law_730 : decode cL_law 730 = .ok (.ifCond .eq 5, 3) := by decide +kernel
theorem dL_law_735 : decode cL_law 735 = .ok (.goto 2527, 3) := by decide +kernel
theorem dL_law_738 : decode cL_law 738 = .ok (.aload_n 1, 1) := by decide +kernel
theorem dL_law_739 : decode cL_law 739 = .ok (.aload_n 0, 1) := by decide +kernel
theorem dL_law_740 : decode cL_law 740 = .ok (.iload 4, 2) := by decide +kernel
theorem dL_law_742 : decode cL_law 742 = .ok (.iconst 1, 1) := by decide +kernel
theorem dL_law_743 : decode cL_law 743 = .ok (.iadd, 1) := by decide +kernel
theorem dL_law_744 : decode cL_law 744 = .ok (.iaload, 1) := by decide +kernel
theorem dL_law_745 : decode cL_law 745 = .ok (.aload_n 3, 1) := by decide +kernel
theorem dL_law_746 : decode cL_law 746 = .ok (.invokestatic 182, 3) := by decide +kernel
theorem dL_law_749 : decode cL_law 749 = .ok (.istore 5, 2) := by decide +kernel
theorem dL_law_751 : decode cL_law 751 = .ok (.aload_n 2, 1) := by decide +kernel
theorem dL_law_752 : decode cL_law 752 = .ok (.aload_n 0, 1) := by decide +kernel
theorem dL_law_753 : decode cL_law 753 = .ok (.iload 4, 2) := by decide +kernel
theorem dL_law_755 : decode cL_law 755 = .ok (.iconst 1, 1) := by decide +kernel
theorem dL_law_756 : decode cL_law 756 = .ok (.iadd, 1) := by decide +kernel
theorem dL_law_757 : decode cL_law 757 = .ok (.iaload, 1) := by decide +kernel
theorem dL_law_758 : decode cL_law 758 = .ok (.invokevirtual 184, 3) := by decide +kernel
theorem dL_law_761 : decode cL_law 761 = .ok (.istore 6, 2) := by decide +kernel
theorem dL_law_763 : decode cL_law 763 = .ok (.aload_n 2, 1) := by decide +kernel
theorem dL_law_764 : decode cL_law 764 = .ok (.invokevirtual 161, 3) := by decide +kernel
theorem dL_law_767 : decode cL_law 767 = .ok (.iload 5, 2) := by decide +kernel
theorem dL_law_769 : decode cL_law 769 = .ok (.if_icmp .eq 5, 3) := by decide +kernel
theorem dL_law_774 : decode cL_law 774 = .ok (.iload 5, 2) := by decide +kernel
theorem dL_law_776 : decode cL_law 776 = .ok (.ifCond .ne 15, 3) := by decide +kernel
theorem dL_law_779 : decode cL_law 779 = .ok (.aload_n 3, 1) := by decide +kernel
theorem dL_law_780 : decode cL_law 780 = .ok (.iconst 0, 1) := by decide +kernel
theorem dL_law_781 : decode cL_law 781 = .ok (.laload, 1) := by decide +kernel
theorem dL_law_782 : decode cL_law 782 = .ok (.iload 6, 2) := by decide +kernel
theorem dL_law_784 : decode cL_law 784 = .ok (.i2l, 1) := by decide +kernel
theorem dL_law_785 : decode cL_law 785 = .ok (.lcmp, 1) := by decide +kernel
theorem dL_law_786 : decode cL_law 786 = .ok (.ifCond .eq 5, 3) := by decide +kernel
theorem dL_law_791 : decode cL_law 791 = .ok (.goto 2471, 3) := by decide +kernel
theorem lo_append {σ τ : Sig} (a0 a1 a2 a3 a4 : Int32) (h : Rl σ τ) : OKi (f11_append a0 a1 a2 a3 a4 σ) (f12_append a0 a1 a2 a3 a4 τ) := by
  exact ok_append a0 a1 a2 a3 a4 h
theorem mz_150 : MWv RL 150 yX11_append cX11_append 6 (some .int) 5 := ⟨gw_t (tin4 (List.mem_of_getElem? (i := 81) rfl)) rfl, gw_t (tin4 (List.mem_of_getElem? (i := 82) rfl)) rfl, gw_t (tin4 (List.mem_of_getElem? (i := 83) rfl)) rfl, gw_t (tin1 (List.mem_of_getElem? (i := 1) rfl)) rfl, gw_t (tin4 (List.mem_of_getElem? (i := 84) rfl)) rfl, by decide, by decide, by decide +kernel⟩
theorem mz_154 : MWv RL 154 yX12_append cX12_append 6 (some .int) 5 := ⟨gw_t (tin8 (List.mem_of_getElem? (i := 206) rfl)) rfl, gw_t (tin8 (List.mem_of_getElem? (i := 207) rfl)) rfl, gw_t (tin8 (List.mem_of_getElem? (i := 208) rfl)) rfl, gw_t (tin1 (List.mem_of_getElem? (i := 19) rfl)) rfl, gw_t (tin8 (List.mem_of_getElem? (i := 209) rfl)) rfl, by decide, by decide, by decide +kernel⟩
theorem lo_truncateInput {σ τ : Sig} (a0 : Int32) (h : Rl σ τ) : OKx [1] (f11_truncateInput a0 σ) (f12_truncateInput a0 τ) := by
  have e1 : xg σ 8 (σ 9) = σ := xg_self σ 8
  have e2 : mr τ (τ 0 1) = τ := mr_self τ
  have q := ok_truncateInput (σ := σ) (τ := τ) (G := σ 9) (w := τ 0 1) a0 (by rw [e1, e2]; exact h)
  rw [e1, e2] at q
  exact q
theorem mz_155 : MWz 155 yL_truncateInput cL_truncateInput 4 [(0, 9, 12, 13)] 3 := ⟨gw_t (tin5 (List.mem_of_getElem? (i := 5) rfl)) rfl, gw_t (tin5 (List.mem_of_getElem? (i := 6) rfl)) rfl, gw_t (tin1 (List.mem_of_getElem? (i := 0) rfl)) rfl, gw_t (tin5 (List.mem_of_getElem? (i := 7) rfl)) rfl, by decide, by decide, by decide +kernel⟩
theorem mz_160 : MWv RL 160 yX12_truncateInput cX12_truncateInput 2 (some .int) 1 := ⟨gw_t (tin8 (List.mem_of_getElem? (i := 214) rfl)) rfl, gw_t (tin8 (List.mem_of_getElem? (i := 215) rfl)) rfl, gw_t (tin8 (List.mem_of_getElem? (i := 216) rfl)) rfl, gw_t (tin1 (List.mem_of_getElem? (i := 19) rfl)) rfl, gw_t (tin8 (List.mem_of_getElem? (i := 217) rfl)) rfl, by decide, by decide, by decide +kernel⟩
theorem mz_161 : MWv RL 161 yX12_thrown cX12_thrown 1 (some .int) 0 := ⟨gw_t (tin7 (List.mem_of_getElem? (i := 192) rfl)) rfl, gw_t (tin7 (List.mem_of_getElem? (i := 193) rfl)) rfl, gw_t (tin7 (List.mem_of_getElem? (i := 194) rfl)) rfl, gw_t (tin1 (List.mem_of_getElem? (i := 19) rfl)) rfl, gw_t (tin7 (List.mem_of_getElem? (i := 195) rfl)) rfl, by decide, by decide, by decide +kernel⟩
theorem lo_runScript {σ τ : Sig} (h : Rl σ τ) : OKi (f11_runScript σ) (f12_runScript τ) := by
  exact ok_runScript h
theorem mz_164 : MWv RL 164 yX11_runScript cX11_runScript 1 (some .int) 0 := ⟨gw_t (tin4 (List.mem_of_getElem? (i := 89) rfl)) rfl, gw_t (tin4 (List.mem_of_getElem? (i := 90) rfl)) rfl, gw_t (tin4 (List.mem_of_getElem? (i := 91) rfl)) rfl, gw_t (tin1 (List.mem_of_getElem? (i := 1) rfl)) rfl, gw_t (tin4 (List.mem_of_getElem? (i := 92) rfl)) rfl, by decide, by decide, by decide +kernel⟩
theorem mz_167 : MWv RL 167 yX12_runScript cX12_runScript 1 (some .int) 0 := ⟨gw_t (tin8 (List.mem_of_getElem? (i := 119) rfl)) rfl, gw_t (tin8 (List.mem_of_getElem? (i := 120) rfl)) rfl, gw_t (tin8 (List.mem_of_getElem? (i := 121) rfl)) rfl, gw_t (tin1 (List.mem_of_getElem? (i := 19) rfl)) rfl, gw_t (tin8 (List.mem_of_getElem? (i := 122) rfl)) rfl, by decide, by decide, by decide +kernel⟩
theorem lo_setPrice {σ τ : Sig} (a0 a1 : Int32) (h : Rl σ τ) : OKx [2, 1] (f11_setPrice a0 a1 σ) (f12_setPrice a0 a1 τ) := by
  have e1 : xg σ 8 (σ 9) = σ := xg_self σ 8
  have e2 : mr τ (τ 0 1) = τ := mr_self τ
  have q := ok_setPrice (σ := σ) (τ := τ) (G := σ 9) (w := τ 0 1) a0 a1 (by rw [e1, e2]; exact h)
  rw [e1, e2] at q
  exact q
theorem mz_168 : MWz 168 yL_setPrice cL_setPrice 5 [(0, 10, 13, 19), (0, 10, 17, 13)] 4 := ⟨gw_t (tin5 (List.mem_of_getElem? (i := 84) rfl)) rfl, gw_t (tin5 (List.mem_of_getElem? (i := 85) rfl)) rfl, gw_t (tin1 (List.mem_of_getElem? (i := 0) rfl)) rfl, gw_t (tin5 (List.mem_of_getElem? (i := 86) rfl)) rfl, by decide, by decide, by decide +kernel⟩
theorem mz_171 : MWv RL 171 yX12_setPrice cX12_setPrice 3 (some .int) 2 := ⟨gw_t (tin7 (List.mem_of_getElem? (i := 196) rfl)) rfl, gw_t (tin7 (List.mem_of_getElem? (i := 197) rfl)) rfl, gw_t (tin7 (List.mem_of_getElem? (i := 198) rfl)) rfl, gw_t (tin1 (List.mem_of_getElem? (i := 19) rfl)) rfl, gw_t (tin7 (List.mem_of_getElem? (i := 199) rfl)) rfl, by decide, by decide, by decide +kernel⟩
theorem lo_setRate {σ τ : Sig} (a0 : Int32) (h : Rl σ τ) : OKx [1] (f11_setRate a0 σ) (f12_setRate a0 τ) := by
  have e1 : xg σ 8 (σ 9) = σ := xg_self σ 8
  have e2 : mr τ (τ 0 1) = τ := mr_self τ
  have q := ok_setRate (σ := σ) (τ := τ) (G := σ 9) (w := τ 0 1) a0 (by rw [e1, e2]; exact h)
  rw [e1, e2] at q
  exact q
theorem mz_172 : MWz 172 yL_setRate cL_setRate 4 [(0, 9, 12, 13)] 3 := ⟨gw_t (tin5 (List.mem_of_getElem? (i := 116) rfl)) rfl, gw_t (tin5 (List.mem_of_getElem? (i := 117) rfl)) rfl, gw_t (tin1 (List.mem_of_getElem? (i := 0) rfl)) rfl, gw_t (tin5 (List.mem_of_getElem? (i := 118) rfl)) rfl, by decide, by decide, by decide +kernel⟩
theorem mz_174 : MWv RL 174 yX12_setRate cX12_setRate 2 (some .int) 1 := ⟨gw_t (tin7 (List.mem_of_getElem? (i := 219) rfl)) rfl, gw_t (tin7 (List.mem_of_getElem? (i := 220) rfl)) rfl, gw_t (tin7 (List.mem_of_getElem? (i := 221) rfl)) rfl, gw_t (tin1 (List.mem_of_getElem? (i := 19) rfl)) rfl, gw_t (tin7 (List.mem_of_getElem? (i := 222) rfl)) rfl, by decide, by decide, by decide +kernel⟩
theorem lo_layBed {σ τ : Sig} (a0 a1 a2 a3 : Int32) (h : Rl σ τ) : OKx [2, 1, 3] (f11_layBed a0 a1 a2 a3 σ) (f12_layBed a0 a1 a2 a3 τ) := by
  have e1 : xg σ 8 (σ 9) = σ := xg_self σ 8
  have e2 : mr τ (τ 0 1) = τ := mr_self τ
  have q := ok_layBed (σ := σ) (τ := τ) (G := σ 9) (w := τ 0 1) a0 a1 a2 a3 (by rw [e1, e2]; exact h)
  rw [e1, e2] at q
  exact q
theorem mz_175 : MWz 175 yL_layBed cL_layBed 7 [(0, 14, 17, 19), (0, 14, 21, 13), (0, 14, 25, 28)] 6 := ⟨gw_t (tin5 (List.mem_of_getElem? (i := 123) rfl)) rfl, gw_t (tin5 (List.mem_of_getElem? (i := 124) rfl)) rfl, gw_t (tin1 (List.mem_of_getElem? (i := 0) rfl)) rfl, gw_t (tin5 (List.mem_of_getElem? (i := 125) rfl)) rfl, by decide, by decide, by decide +kernel⟩
theorem mz_178 : MWv RL 178 yX12_layBed cX12_layBed 5 (some .int) 4 := ⟨gw_t (tin7 (List.mem_of_getElem? (i := 223) rfl)) rfl, gw_t (tin7 (List.mem_of_getElem? (i := 224) rfl)) rfl, gw_t (tin7 (List.mem_of_getElem? (i := 225) rfl)) rfl, gw_t (tin1 (List.mem_of_getElem? (i := 19) rfl)) rfl, gw_t (tin7 (List.mem_of_getElem? (i := 226) rfl)) rfl, by decide, by decide, by decide +kernel⟩
theorem lo_setPeacocks {σ τ : Sig} (a0 a1 : Int32) (h : Rl σ τ) : OKx [1] (f11_setPeacocks a0 a1 σ) (f12_setPeacocks a0 a1 τ) := by
  have e1 : xg σ 8 (σ 9) = σ := xg_self σ 8
  have e2 : mr τ (τ 0 1) = τ := mr_self τ
  have q := ok_setPeacocks (σ := σ) (τ := τ) (G := σ 9) (w := τ 0 1) a0 a1 (by rw [e1, e2]; exact h)
  rw [e1, e2] at q
  exact q
theorem mz_179 : MWz 179 yL_setPeacocks cL_setPeacocks 5 [(0, 10, 13, 13)] 4 := ⟨gw_t (tin5 (List.mem_of_getElem? (i := 152) rfl)) rfl, gw_t (tin5 (List.mem_of_getElem? (i := 153) rfl)) rfl, gw_t (tin1 (List.mem_of_getElem? (i := 0) rfl)) rfl, gw_t (tin5 (List.mem_of_getElem? (i := 154) rfl)) rfl, by decide, by decide, by decide +kernel⟩
theorem mz_181 : MWv RL 181 yX12_setPeacocks cX12_setPeacocks 3 (some .int) 2 := ⟨gw_t (tin7 (List.mem_of_getElem? (i := 235) rfl)) rfl, gw_t (tin7 (List.mem_of_getElem? (i := 236) rfl)) rfl, gw_t (tin7 (List.mem_of_getElem? (i := 237) rfl)) rfl, gw_t (tin1 (List.mem_of_getElem? (i := 19) rfl)) rfl, gw_t (tin7 (List.mem_of_getElem? (i := 238) rfl)) rfl, by decide, by decide, by decide +kernel⟩
theorem lo_setPause {σ τ : Sig} (a0 : Int32) (h : Rl σ τ) : OKx [1] (f11_setPause a0 σ) (f12_setPause a0 τ) := by
  have e1 : xg σ 8 (σ 9) = σ := xg_self σ 8
  have e2 : mr τ (τ 0 1) = τ := mr_self τ
  have q := ok_setPause (σ := σ) (τ := τ) (G := σ 9) (w := τ 0 1) a0 (by rw [e1, e2]; exact h)
  rw [e1, e2] at q
  exact q
theorem mz_182 : MWz 182 yL_setPause cL_setPause 4 [(0, 9, 12, 13)] 3 := ⟨gw_t (tin5 (List.mem_of_getElem? (i := 164) rfl)) rfl, gw_t (tin5 (List.mem_of_getElem? (i := 165) rfl)) rfl, gw_t (tin1 (List.mem_of_getElem? (i := 0) rfl)) rfl, gw_t (tin5 (List.mem_of_getElem? (i := 166) rfl)) rfl, by decide, by decide, by decide +kernel⟩
theorem mz_184 : MWv RL 184 yX12_setPause cX12_setPause 2 (some .int) 1 := ⟨gw_t (tin8 (List.mem_of_getElem? (i := 3) rfl)) rfl, gw_t (tin8 (List.mem_of_getElem? (i := 4) rfl)) rfl, gw_t (tin8 (List.mem_of_getElem? (i := 5) rfl)) rfl, gw_t (tin1 (List.mem_of_getElem? (i := 19) rfl)) rfl, gw_t (tin8 (List.mem_of_getElem? (i := 6) rfl)) rfl, by decide, by decide, by decide +kernel⟩
