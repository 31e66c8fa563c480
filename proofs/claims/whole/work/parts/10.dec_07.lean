theorem d_Mo_shape_308 : decode prog_8_method_17_code 308 = .ok (.iload 9, 2) := by decide +kernel
theorem d_Mo_shape_310 : decode prog_8_method_17_code 310 = .ok (.iload 8, 2) := by decide +kernel
theorem d_Mo_shape_312 : decode prog_8_method_17_code 312 = .ok (.invokevirtual 100, 3) := by decide +kernel
theorem d_Mo_shape_315 : decode prog_8_method_17_code 315 = .ok (.ireturn, 1) := by decide +kernel
theorem d_Mo_shape_316 : decode prog_8_method_17_code 316 = .ok (.iload_n 2, 1) := by decide +kernel
theorem d_Mo_shape_317 : decode prog_8_method_17_code 317 = .ok (.bipush 7, 2) := by decide +kernel
theorem d_Mo_shape_319 : decode prog_8_method_17_code 319 = .ok (.if_icmp .ne 42, 3) := by decide +kernel
theorem d_Mo_shape_322 : decode prog_8_method_17_code 322 = .ok (.aload_n 0, 1) := by decide +kernel
theorem d_Mo_shape_323 : decode prog_8_method_17_code 323 = .ok (.aload_n 0, 1) := by decide +kernel
theorem d_Mo_shape_324 : decode prog_8_method_17_code 324 = .ok (.getfield 35, 3) := by decide +kernel
theorem d_Mo_shape_327 : decode prog_8_method_17_code 327 = .ok (.iload_n 1, 1) := by decide +kernel
theorem d_Mo_shape_328 : decode prog_8_method_17_code 328 = .ok (.iaload, 1) := by decide +kernel
theorem d_Mo_shape_329 : decode prog_8_method_17_code 329 = .ok (.iconst 0, 1) := by decide +kernel
theorem d_Mo_shape_330 : decode prog_8_method_17_code 330 = .ok (.iconst 1, 1) := by decide +kernel
theorem d_Mo_shape_331 : decode prog_8_method_17_code 331 = .ok (.invokevirtual 68, 3) := by decide +kernel
theorem d_Mo_shape_334 : decode prog_8_method_17_code 334 = .ok (.ifCond .ne 25, 3) := by decide +kernel
theorem d_Mo_shape_337 : decode prog_8_method_17_code 337 = .ok (.aload_n 0, 1) := by decide +kernel
theorem d_Mo_shape_338 : decode prog_8_method_17_code 338 = .ok (.iload_n 1, 1) := by decide +kernel
theorem d_Mo_shape_339 : decode prog_8_method_17_code 339 = .ok (.aload_n 0, 1) := by decide +kernel
theorem d_Mo_shape_340 : decode prog_8_method_17_code 340 = .ok (.getfield 35, 3) := by decide +kernel
theorem d_Mo_shape_343 : decode prog_8_method_17_code 343 = .ok (.iload_n 1, 1) := by decide +kernel
theorem d_Mo_shape_344 : decode prog_8_method_17_code 344 = .ok (.iaload, 1) := by decide +kernel
theorem d_Mo_shape_345 : decode prog_8_method_17_code 345 = .ok (.iload 8, 2) := by decide +kernel
theorem d_Mo_shape_347 : decode prog_8_method_17_code 347 = .ok (.iload 9, 2) := by decide +kernel
theorem d_Mo_shape_349 : decode prog_8_method_17_code 349 = .ok (.invokevirtual 100, 3) := by decide +kernel
theorem d_Mo_shape_352 : decode prog_8_method_17_code 352 = .ok (.ifCond .eq 7, 3) := by decide +kernel
theorem d_Mo_shape_355 : decode prog_8_method_17_code 355 = .ok (.iconst 1, 1) := by decide +kernel
theorem d_Mo_shape_356 : decode prog_8_method_17_code 356 = .ok (.goto 4, 3) := by decide +kernel
theorem d_Mo_shape_359 : decode prog_8_method_17_code 359 = .ok (.iconst 0, 1) := by decide +kernel
theorem d_Mo_shape_360 : decode prog_8_method_17_code 360 = .ok (.ireturn, 1) := by decide +kernel
theorem d_Mo_shape_361 : decode prog_8_method_17_code 361 = .ok (.iload_n 2, 1) := by decide +kernel
theorem d_Mo_shape_362 : decode prog_8_method_17_code 362 = .ok (.bipush 9, 2) := by decide +kernel
theorem d_Mo_shape_364 : decode prog_8_method_17_code 364 = .ok (.if_icmp .ne 139, 3) := by decide +kernel
theorem d_Mo_shape_367 : decode prog_8_method_17_code 367 = .ok (.aload_n 0, 1) := by decide +kernel
theorem d_Mo_shape_368 : decode prog_8_method_17_code 368 = .ok (.getfield 13, 3) := by decide +kernel
theorem d_Mo_shape_371 : decode prog_8_method_17_code 371 = .ok (.iload 5, 2) := by decide +kernel
theorem d_Mo_shape_373 : decode prog_8_method_17_code 373 = .ok (.iaload, 1) := by decide +kernel
theorem d_Mo_shape_374 : decode prog_8_method_17_code 374 = .ok (.iconst 1, 1) := by decide +kernel
theorem d_Mo_shape_375 : decode prog_8_method_17_code 375 = .ok (.if_icmp .ne 18, 3) := by decide +kernel
theorem d_Mo_shape_378 : decode prog_8_method_17_code 378 = .ok (.iload 6, 2) := by decide +kernel
theorem d_Mo_shape_380 : decode prog_8_method_17_code 380 = .ok (.ifCond .eq 13, 3) := by decide +kernel
theorem d_Mo_shape_383 : decode prog_8_method_17_code 383 = .ok (.aload_n 0, 1) := by decide +kernel
theorem d_Mo_shape_384 : decode prog_8_method_17_code 384 = .ok (.iload_n 3, 1) := by decide +kernel
theorem d_Mo_shape_385 : decode prog_8_method_17_code 385 = .ok (.iload 4, 2) := by decide +kernel
theorem d_Mo_shape_387 : decode prog_8_method_17_code 387 = .ok (.invokevirtual 93, 3) := by decide +kernel
theorem d_Mo_shape_390 : decode prog_8_method_17_code 390 = .ok (.ifCond .ne 5, 3) := by decide +kernel
theorem d_Mo_shape_393 : decode prog_8_method_17_code 393 = .ok (.iconst 0, 1) := by decide +kernel
theorem d_Mo_shape_394 : decode prog_8_method_17_code 394 = .ok (.ireturn, 1) := by decide +kernel
theorem d_Mo_shape_395 : decode prog_8_method_17_code 395 = .ok (.aload_n 0, 1) := by decide +kernel
theorem d_Mo_shape_396 : decode prog_8_method_17_code 396 = .ok (.iload 8, 2) := by decide +kernel
theorem d_Mo_shape_398 : decode prog_8_method_17_code 398 = .ok (.aload_n 0, 1) := by decide +kernel
theorem d_Mo_shape_399 : decode prog_8_method_17_code 399 = .ok (.getfield 16, 3) := by decide +kernel
theorem d_Mo_shape_402 : decode prog_8_method_17_code 402 = .ok (.iload 4, 2) := by decide +kernel
theorem d_Mo_shape_404 : decode prog_8_method_17_code 404 = .ok (.iaload, 1) := by decide +kernel
theorem d_Mo_shape_405 : decode prog_8_method_17_code 405 = .ok (.invokevirtual 96, 3) := by decide +kernel
theorem d_Mo_shape_408 : decode prog_8_method_17_code 408 = .ok (.istore 10, 2) := by decide +kernel
theorem d_Mo_shape_410 : decode prog_8_method_17_code 410 = .ok (.aload_n 0, 1) := by decide +kernel
theorem d_Mo_shape_411 : decode prog_8_method_17_code 411 = .ok (.iload 9, 2) := by decide +kernel
theorem d_Mo_shape_413 : decode prog_8_method_17_code 413 = .ok (.aload_n 0, 1) := by decide +kernel
theorem d_Mo_shape_414 : decode prog_8_method_17_code 414 = .ok (.getfield 19, 3) := by decide +kernel
theorem d_Mo_shape_417 : decode prog_8_method_17_code 417 = .ok (.iload 4, 2) := by decide +kernel
theorem d_Mo_shape_419 : decode prog_8_method_17_code 419 = .ok (.iaload, 1) := by decide +kernel
theorem d_Mo_shape_420 : decode prog_8_method_17_code 420 = .ok (.invokevirtual 96, 3) := by decide +kernel
theorem d_Mo_shape_423 : decode prog_8_method_17_code 423 = .ok (.istore 11, 2) := by decide +kernel
theorem d_Mo_shape_425 : decode prog_8_method_17_code 425 = .ok (.aload_n 0, 1) := by decide +kernel
theorem d_Mo_shape_426 : decode prog_8_method_17_code 426 = .ok (.iload 10, 2) := by decide +kernel
theorem d_Mo_shape_428 : decode prog_8_method_17_code 428 = .ok (.aload_n 0, 1) := by decide +kernel
theorem d_Mo_shape_429 : decode prog_8_method_17_code 429 = .ok (.getfield 16, 3) := by decide +kernel
theorem d_Mo_shape_432 : decode prog_8_method_17_code 432 = .ok (.iload 5, 2) := by decide +kernel
theorem d_Mo_shape_434 : decode prog_8_method_17_code 434 = .ok (.iaload, 1) := by decide +kernel
theorem d_Mo_shape_435 : decode prog_8_method_17_code 435 = .ok (.invokevirtual 89, 3) := by decide +kernel
theorem d_Mo_shape_438 : decode prog_8_method_17_code 438 = .ok (.ifCond .eq 63, 3) := by decide +kernel
theorem d_Mo_shape_441 : decode prog_8_method_17_code 441 = .ok (.aload_n 0, 1) := by decide +kernel
theorem d_Mo_shape_442 : decode prog_8_method_17_code 442 = .ok (.iload 11, 2) := by decide +kernel
theorem d_Mo_shape_444 : decode prog_8_method_17_code 444 = .ok (.aload_n 0, 1) := by decide +kernel
theorem d_Mo_shape_445 : decode prog_8_method_17_code 445 = .ok (.getfield 19, 3) := by decide +kernel
theorem d_Mo_shape_448 : decode prog_8_method_17_code 448 = .ok (.iload 5, 2) := by decide +kernel
theorem d_Mo_shape_450 : decode prog_8_method_17_code 450 = .ok (.iaload, 1) := by decide +kernel
theorem d_Mo_shape_451 : decode prog_8_method_17_code 451 = .ok (.invokevirtual 89, 3) := by decide +kernel
theorem d_Mo_shape_454 : decode prog_8_method_17_code 454 = .ok (.ifCond .eq 47, 3) := by decide +kernel
theorem d_Mo_shape_457 : decode prog_8_method_17_code 457 = .ok (.aload_n 0, 1) := by decide +kernel
theorem d_Mo_shape_458 : decode prog_8_method_17_code 458 = .ok (.iload_n 1, 1) := by decide +kernel
theorem d_Mo_shape_459 : decode prog_8_method_17_code 459 = .ok (.aload_n 0, 1) := by decide +kernel
theorem d_Mo_shape_460 : decode prog_8_method_17_code 460 = .ok (.getfield 13, 3) := by decide +kernel
theorem d_Mo_shape_463 : decode prog_8_method_17_code 463 = .ok (.iload_n 3, 1) := by decide +kernel
theorem d_Mo_shape_464 : decode prog_8_method_17_code 464 = .ok (.iaload, 1) := by decide +kernel
theorem d_Mo_shape_465 : decode prog_8_method_17_code 465 = .ok (.aload_n 0, 1) := by decide +kernel
theorem d_Mo_shape_466 : decode prog_8_method_17_code 466 = .ok (.iload 10, 2) := by decide +kernel
theorem d_Mo_shape_468 : decode prog_8_method_17_code 468 = .ok (.aload_n 0, 1) := by decide +kernel
theorem d_Mo_shape_469 : decode prog_8_method_17_code 469 = .ok (.getfield 16, 3) := by decide +kernel
theorem d_Mo_shape_472 : decode prog_8_method_17_code 472 = .ok (.iload 5, 2) := by decide +kernel
theorem d_Mo_shape_474 : decode prog_8_method_17_code 474 = .ok (.iaload, 1) := by decide +kernel
theorem d_Mo_shape_475 : decode prog_8_method_17_code 475 = .ok (.invokevirtual 96, 3) := by decide +kernel
theorem d_Mo_shape_478 : decode prog_8_method_17_code 478 = .ok (.aload_n 0, 1) := by decide +kernel
theorem d_Mo_shape_479 : decode prog_8_method_17_code 479 = .ok (.iload 11, 2) := by decide +kernel
theorem d_Mo_shape_481 : decode prog_8_method_17_code 481 = .ok (.aload_n 0, 1) := by decide +kernel
theorem d_Mo_shape_482 : decode prog_8_method_17_code 482 = .ok (.getfield 19, 3) := by decide +kernel
theorem d_Mo_shape_485 : decode prog_8_method_17_code 485 = .ok (.iload 5, 2) := by decide +kernel
theorem d_Mo_shape_487 : decode prog_8_method_17_code 487 = .ok (.iaload, 1) := by decide +kernel
theorem d_Mo_shape_488 : decode prog_8_method_17_code 488 = .ok (.invokevirtual 96, 3) := by decide +kernel
theorem d_Mo_shape_491 : decode prog_8_method_17_code 491 = .ok (.invokevirtual 100, 3) := by decide +kernel
theorem d_Mo_shape_494 : decode prog_8_method_17_code 494 = .ok (.ifCond .eq 7, 3) := by decide +kernel
theorem d_Mo_shape_497 : decode prog_8_method_17_code 497 = .ok (.iconst 1, 1) := by decide +kernel
theorem d_Mo_shape_498 : decode prog_8_method_17_code 498 = .ok (.goto 4, 3) := by decide +kernel
theorem d_Mo_shape_501 : decode prog_8_method_17_code 501 = .ok (.iconst 0, 1) := by decide +kernel
theorem d_Mo_shape_502 : decode prog_8_method_17_code 502 = .ok (.ireturn, 1) := by decide +kernel
theorem d_Mo_shape_503 : decode prog_8_method_17_code 503 = .ok (.iload_n 2, 1) := by decide +kernel
theorem d_Mo_shape_504 : decode prog_8_method_17_code 504 = .ok (.bipush 10, 2) := by decide +kernel
theorem d_Mo_shape_506 : decode prog_8_method_17_code 506 = .ok (.if_icmp .eq 9, 3) := by decide +kernel
theorem d_Mo_shape_509 : decode prog_8_method_17_code 509 = .ok (.iload_n 2, 1) := by decide +kernel
theorem d_Mo_shape_510 : decode prog_8_method_17_code 510 = .ok (.bipush 11, 2) := by decide +kernel
theorem d_Mo_shape_512 : decode prog_8_method_17_code 512 = .ok (.if_icmp .ne 68, 3) := by decide +kernel
theorem d_Mo_shape_515 : decode prog_8_method_17_code 515 = .ok (.aload_n 0, 1) := by decide +kernel
theorem d_Mo_shape_516 : decode prog_8_method_17_code 516 = .ok (.aload_n 0, 1) := by decide +kernel
theorem d_Mo_shape_517 : decode prog_8_method_17_code 517 = .ok (.getfield 35, 3) := by decide +kernel
theorem d_Mo_shape_520 : decode prog_8_method_17_code 520 = .ok (.iload_n 1, 1) := by decide +kernel
theorem d_Mo_shape_521 : decode prog_8_method_17_code 521 = .ok (.iaload, 1) := by decide +kernel
theorem d_Mo_shape_522 : decode prog_8_method_17_code 522 = .ok (.iconst 0, 1) := by decide +kernel
theorem d_Mo_shape_523 : decode prog_8_method_17_code 523 = .ok (.iconst 1, 1) := by decide +kernel
theorem d_Mo_shape_524 : decode prog_8_method_17_code 524 = .ok (.invokevirtual 68, 3) := by decide +kernel
theorem d_Mo_shape_527 : decode prog_8_method_17_code 527 = .ok (.ifCond .ne 51, 3) := by decide +kernel
theorem d_Mo_shape_530 : decode prog_8_method_17_code 530 = .ok (.aload_n 0, 1) := by decide +kernel
theorem d_Mo_shape_531 : decode prog_8_method_17_code 531 = .ok (.iload_n 1, 1) := by decide +kernel
theorem d_Mo_shape_532 : decode prog_8_method_17_code 532 = .ok (.aload_n 0, 1) := by decide +kernel
theorem d_Mo_shape_533 : decode prog_8_method_17_code 533 = .ok (.getfield 13, 3) := by decide +kernel
theorem d_Mo_shape_536 : decode prog_8_method_17_code 536 = .ok (.iload_n 3, 1) := by decide +kernel
theorem d_Mo_shape_537 : decode prog_8_method_17_code 537 = .ok (.iaload, 1) := by decide +kernel
theorem d_Mo_shape_538 : decode prog_8_method_17_code 538 = .ok (.aload_n 0, 1) := by decide +kernel
theorem d_Mo_shape_539 : decode prog_8_method_17_code 539 = .ok (.getfield 35, 3) := by decide +kernel
theorem d_Mo_shape_542 : decode prog_8_method_17_code 542 = .ok (.iload_n 1, 1) := by decide +kernel
theorem d_Mo_shape_543 : decode prog_8_method_17_code 543 = .ok (.iaload, 1) := by decide +kernel
theorem d_Mo_shape_544 : decode prog_8_method_17_code 544 = .ok (.ifCond .ne 7, 3) := by decide +kernel
theorem d_Mo_shape_547 : decode prog_8_method_17_code 547 = .ok (.iconst 1, 1) := by decide +kernel
theorem d_Mo_shape_548 : decode prog_8_method_17_code 548 = .ok (.goto 5, 3) := by decide +kernel
theorem d_Mo_shape_551 : decode prog_8_method_17_code 551 = .ok (.iload 8, 2) := by decide +kernel
theorem d_Mo_shape_553 : decode prog_8_method_17_code 553 = .ok (.aload_n 0, 1) := by decide +kernel
theorem d_Mo_shape_554 : decode prog_8_method_17_code 554 = .ok (.getfield 35, 3) := by decide +kernel
theorem d_Mo_shape_557 : decode prog_8_method_17_code 557 = .ok (.iload_n 1, 1) := by decide +kernel
theorem d_Mo_shape_558 : decode prog_8_method_17_code 558 = .ok (.iaload, 1) := by decide +kernel
theorem d_Mo_shape_559 : decode prog_8_method_17_code 559 = .ok (.ifCond .ne 8, 3) := by decide +kernel
theorem d_Mo_shape_562 : decode prog_8_method_17_code 562 = .ok (.iload 9, 2) := by decide +kernel
theorem d_Mo_shape_564 : decode prog_8_method_17_code 564 = .ok (.goto 4, 3) := by decide +kernel
theorem d_Mo_shape_567 : decode prog_8_method_17_code 567 = .ok (.iconst 1, 1) := by decide +kernel
theorem d_Mo_shape_568 : decode prog_8_method_17_code 568 = .ok (.invokevirtual 100, 3) := by decide +kernel
theorem d_Mo_shape_571 : decode prog_8_method_17_code 571 = .ok (.ifCond .eq 7, 3) := by decide +kernel
theorem d_Mo_shape_574 : decode prog_8_method_17_code 574 = .ok (.iconst 1, 1) := by decide +kernel
theorem d_Mo_shape_575 : decode prog_8_method_17_code 575 = .ok (.goto 4, 3) := by decide +kernel
theorem d_Mo_shape_578 : decode prog_8_method_17_code 578 = .ok (.iconst 0, 1) := by decide +kernel
theorem d_Mo_shape_579 : decode prog_8_method_17_code 579 = .ok (.ireturn, 1) := by decide +kernel
theorem d_Mo_shape_580 : decode prog_8_method_17_code 580 = .ok (.iload_n 2, 1) := by decide +kernel
theorem d_Mo_shape_581 : decode prog_8_method_17_code 581 = .ok (.bipush 12, 2) := by decide +kernel
theorem d_Mo_shape_583 : decode prog_8_method_17_code 583 = .ok (.if_icmp .ne 13, 3) := by decide +kernel
theorem d_Mo_shape_586 : decode prog_8_method_17_code 586 = .ok (.aload_n 0, 1) := by decide +kernel
theorem d_Mo_shape_587 : decode prog_8_method_17_code 587 = .ok (.iload_n 1, 1) := by decide +kernel
theorem d_Mo_shape_588 : decode prog_8_method_17_code 588 = .ok (.iconst 1, 1) := by decide +kernel
theorem d_Mo_shape_589 : decode prog_8_method_17_code 589 = .ok (.iload 8, 2) := by decide +kernel
theorem d_Mo_shape_591 : decode prog_8_method_17_code 591 = .ok (.iconst 1, 1) := by decide +kernel
theorem d_Mo_shape_592 : decode prog_8_method_17_code 592 = .ok (.invokevirtual 100, 3) := by decide +kernel
theorem d_Mo_shape_595 : decode prog_8_method_17_code 595 = .ok (.ireturn, 1) := by decide +kernel
theorem d_Mo_shape_596 : decode prog_8_method_17_code 596 = .ok (.iload_n 2, 1) := by decide +kernel
theorem d_Mo_shape_597 : decode prog_8_method_17_code 597 = .ok (.bipush 13, 2) := by decide +kernel
theorem d_Mo_shape_599 : decode prog_8_method_17_code 599 = .ok (.if_icmp .ne 122, 3) := by decide +kernel
theorem d_Mo_shape_602 : decode prog_8_method_17_code 602 = .ok (.iload 6, 2) := by decide +kernel
theorem d_Mo_shape_604 : decode prog_8_method_17_code 604 = .ok (.ifCond .eq 18, 3) := by decide +kernel
theorem d_Mo_shape_607 : decode prog_8_method_17_code 607 = .ok (.aload_n 0, 1) := by decide +kernel
theorem d_Mo_shape_608 : decode prog_8_method_17_code 608 = .ok (.aload_n 0, 1) := by decide +kernel
theorem d_Mo_shape_609 : decode prog_8_method_17_code 609 = .ok (.getfield 35, 3) := by decide +kernel
theorem d_Mo_shape_612 : decode prog_8_method_17_code 612 = .ok (.iload_n 1, 1) := by decide +kernel
theorem d_Mo_shape_613 : decode prog_8_method_17_code 613 = .ok (.iaload, 1) := by decide +kernel
theorem d_Mo_shape_614 : decode prog_8_method_17_code 614 = .ok (.iconst 0, 1) := by decide +kernel
theorem d_Mo_shape_615 : decode prog_8_method_17_code 615 = .ok (.iconst 1, 1) := by decide +kernel
theorem d_Mo_shape_616 : decode prog_8_method_17_code 616 = .ok (.invokevirtual 68, 3) := by decide +kernel
theorem d_Mo_shape_619 : decode prog_8_method_17_code 619 = .ok (.ifCond .eq 5, 3) := by decide +kernel
theorem d_Mo_shape_622 : decode prog_8_method_17_code 622 = .ok (.iconst 0, 1) := by decide +kernel
theorem d_Mo_shape_623 : decode prog_8_method_17_code 623 = .ok (.ireturn, 1) := by decide +kernel
theorem d_Mo_shape_624 : decode prog_8_method_17_code 624 = .ok (.aload_n 0, 1) := by decide +kernel
theorem d_Mo_shape_625 : decode prog_8_method_17_code 625 = .ok (.getfield 35, 3) := by decide +kernel
theorem d_Mo_shape_628 : decode prog_8_method_17_code 628 = .ok (.iload_n 1, 1) := by decide +kernel
theorem d_Mo_shape_629 : decode prog_8_method_17_code 629 = .ok (.iaload, 1) := by decide +kernel
theorem d_Mo_shape_630 : decode prog_8_method_17_code 630 = .ok (.ifCond .ne 47, 3) := by decide +kernel
theorem d_Mo_shape_633 : decode prog_8_method_17_code 633 = .ok (.iload 9, 2) := by decide +kernel
theorem d_Mo_shape_635 : decode prog_8_method_17_code 635 = .ok (.aload_n 0, 1) := by decide +kernel
theorem d_Mo_shape_636 : decode prog_8_method_17_code 636 = .ok (.getfield 19, 3) := by decide +kernel
theorem d_Mo_shape_639 : decode prog_8_method_17_code 639 = .ok (.iload 4, 2) := by decide +kernel
theorem d_Mo_shape_641 : decode prog_8_method_17_code 641 = .ok (.iaload, 1) := by decide +kernel
theorem d_Mo_shape_642 : decode prog_8_method_17_code 642 = .ok (.if_icmp .ne 33, 3) := by decide +kernel
theorem d_Mo_shape_645 : decode prog_8_method_17_code 645 = .ok (.aload_n 0, 1) := by decide +kernel
theorem d_Mo_shape_646 : decode prog_8_method_17_code 646 = .ok (.iload_n 1, 1) := by decide +kernel
theorem d_Mo_shape_647 : decode prog_8_method_17_code 647 = .ok (.aload_n 0, 1) := by decide +kernel
theorem d_Mo_shape_648 : decode prog_8_method_17_code 648 = .ok (.getfield 13, 3) := by decide +kernel
theorem d_Mo_shape_651 : decode prog_8_method_17_code 651 = .ok (.iload_n 3, 1) := by decide +kernel
theorem d_Mo_shape_652 : decode prog_8_method_17_code 652 = .ok (.iaload, 1) := by decide +kernel
theorem d_Mo_shape_653 : decode prog_8_method_17_code 653 = .ok (.iload 8, 2) := by decide +kernel
theorem d_Mo_shape_655 : decode prog_8_method_17_code 655 = .ok (.aload_n 0, 1) := by decide +kernel
theorem d_Mo_shape_656 : decode prog_8_method_17_code 656 = .ok (.getfield 16, 3) := by decide +kernel
theorem d_Mo_shape_659 : decode prog_8_method_17_code 659 = .ok (.iload 4, 2) := by decide +kernel
theorem d_Mo_shape_661 : decode prog_8_method_17_code 661 = .ok (.iaload, 1) := by decide +kernel
theorem d_Mo_shape_662 : decode prog_8_method_17_code 662 = .ok (.iadd, 1) := by decide +kernel
theorem d_Mo_shape_663 : decode prog_8_method_17_code 663 = .ok (.iload 9, 2) := by decide +kernel
theorem d_Mo_shape_665 : decode prog_8_method_17_code 665 = .ok (.invokevirtual 100, 3) := by decide +kernel
theorem d_Mo_shape_668 : decode prog_8_method_17_code 668 = .ok (.ifCond .eq 7, 3) := by decide +kernel
theorem d_Mo_shape_671 : decode prog_8_method_17_code 671 = .ok (.iconst 1, 1) := by decide +kernel
theorem d_Mo_shape_672 : decode prog_8_method_17_code 672 = .ok (.goto 4, 3) := by decide +kernel
theorem d_Mo_shape_675 : decode prog_8_method_17_code 675 = .ok (.iconst 0, 1) := by decide +kernel
theorem d_Mo_shape_676 : decode prog_8_method_17_code 676 = .ok (.ireturn, 1) := by decide +kernel
theorem d_Mo_shape_677 : decode prog_8_method_17_code 677 = .ok (.iload 8, 2) := by decide +kernel
theorem d_Mo_shape_679 : decode prog_8_method_17_code 679 = .ok (.aload_n 0, 1) := by decide +kernel
theorem d_Mo_shape_680 : decode prog_8_method_17_code 680 = .ok (.getfield 16, 3) := by decide +kernel
theorem d_Mo_shape_683 : decode prog_8_method_17_code 683 = .ok (.iload 4, 2) := by decide +kernel
theorem d_Mo_shape_685 : decode prog_8_method_17_code 685 = .ok (.iaload, 1) := by decide +kernel
theorem d_Mo_shape_686 : decode prog_8_method_17_code 686 = .ok (.if_icmp .ne 33, 3) := by decide +kernel
theorem d_Mo_shape_689 : decode prog_8_method_17_code 689 = .ok (.aload_n 0, 1) := by decide +kernel
theorem d_Mo_shape_690 : decode prog_8_method_17_code 690 = .ok (.iload_n 1, 1) := by decide +kernel
theorem d_Mo_shape_691 : decode prog_8_method_17_code 691 = .ok (.aload_n 0, 1) := by decide +kernel
theorem d_Mo_shape_692 : decode prog_8_method_17_code 692 = .ok (.getfield 13, 3) := by decide +kernel
theorem d_Mo_shape_695 : decode prog_8_method_17_code 695 = .ok (.iload_n 3, 1) := by decide +kernel
theorem d_Mo_shape_696 : decode prog_8_method_17_code 696 = .ok (.iaload, 1) := by decide +kernel
theorem d_Mo_shape_697 : decode prog_8_method_17_code 697 = .ok (.iload 8, 2) := by decide +kernel
theorem d_Mo_shape_699 : decode prog_8_method_17_code 699 = .ok (.iload 9, 2) := by decide +kernel
theorem d_Mo_shape_701 : decode prog_8_method_17_code 701 = .ok (.aload_n 0, 1) := by decide +kernel
theorem d_Mo_shape_702 : decode prog_8_method_17_code 702 = .ok (.getfield 19, 3) := by decide +kernel
theorem d_Mo_shape_705 : decode prog_8_method_17_code 705 = .ok (.iload 4, 2) := by decide +kernel
theorem d_Mo_shape_707 : decode prog_8_method_17_code 707 = .ok (.iaload, 1) := by decide +kernel
theorem d_Mo_shape_708 : decode prog_8_method_17_code 708 = .ok (.iadd, 1) := by decide +kernel
theorem d_Mo_shape_709 : decode prog_8_method_17_code 709 = .ok (.invokevirtual 100, 3) := by decide +kernel
theorem d_Mo_shape_712 : decode prog_8_method_17_code 712 = .ok (.ifCond .eq 7, 3) := by decide +kernel
theorem d_Mo_shape_715 : decode prog_8_method_17_code 715 = .ok (.iconst 1, 1) := by decide +kernel
theorem d_Mo_shape_716 : decode prog_8_method_17_code 716 = .ok (.goto 4, 3) := by decide +kernel
theorem d_Mo_shape_719 : decode prog_8_method_17_code 719 = .ok (.iconst 0, 1) := by decide +kernel
theorem d_Mo_shape_720 : decode prog_8_method_17_code 720 = .ok (.ireturn, 1) := by decide +kernel
theorem d_Mo_shape_721 : decode prog_8_method_17_code 721 = .ok (.iload_n 2, 1) := by decide +kernel
theorem d_Mo_shape_722 : decode prog_8_method_17_code 722 = .ok (.bipush 14, 2) := by decide +kernel
theorem d_Mo_shape_724 : decode prog_8_method_17_code 724 = .ok (.if_icmp .ne 75, 3) := by decide +kernel
theorem d_Mo_shape_727 : decode prog_8_method_17_code 727 = .ok (.aload_n 0, 1) := by decide +kernel
theorem d_Mo_shape_728 : decode prog_8_method_17_code 728 = .ok (.getfield 35, 3) := by decide +kernel
theorem d_Mo_shape_731 : decode prog_8_method_17_code 731 = .ok (.iload_n 1, 1) := by decide +kernel
theorem d_Mo_shape_732 : decode prog_8_method_17_code 732 = .ok (.iaload, 1) := by decide +kernel
theorem d_Mo_shape_733 : decode prog_8_method_17_code 733 = .ok (.ifCond .lt 64, 3) := by decide +kernel
theorem d_Mo_shape_736 : decode prog_8_method_17_code 736 = .ok (.aload_n 0, 1) := by decide +kernel
theorem d_Mo_shape_737 : decode prog_8_method_17_code 737 = .ok (.getfield 35, 3) := by decide +kernel
theorem d_Mo_shape_740 : decode prog_8_method_17_code 740 = .ok (.iload_n 1, 1) := by decide +kernel
theorem d_Mo_shape_741 : decode prog_8_method_17_code 741 = .ok (.iaload, 1) := by decide +kernel
theorem d_Mo_shape_742 : decode prog_8_method_17_code 742 = .ok (.aload_n 0, 1) := by decide +kernel
theorem d_Mo_shape_743 : decode prog_8_method_17_code 743 = .ok (.getfield 38, 3) := by decide +kernel
theorem d_Mo_shape_746 : decode prog_8_method_17_code 746 = .ok (.iload_n 1, 1) := by decide +kernel
theorem d_Mo_shape_747 : decode prog_8_method_17_code 747 = .ok (.iaload, 1) := by decide +kernel
theorem d_Mo_shape_748 : decode prog_8_method_17_code 748 = .ok (.if_icmp .gt 49, 3) := by decide +kernel
theorem d_Mo_shape_751 : decode prog_8_method_17_code 751 = .ok (.aload_n 0, 1) := by decide +kernel
theorem d_Mo_shape_752 : decode prog_8_method_17_code 752 = .ok (.getfield 38, 3) := by decide +kernel
theorem d_Mo_shape_755 : decode prog_8_method_17_code 755 = .ok (.iload_n 1, 1) := by decide +kernel
theorem d_Mo_shape_756 : decode prog_8_method_17_code 756 = .ok (.iaload, 1) := by decide +kernel
theorem d_Mo_shape_757 : decode prog_8_method_17_code 757 = .ok (.iload 8, 2) := by decide +kernel
theorem d_Mo_shape_759 : decode prog_8_method_17_code 759 = .ok (.if_icmp .ge 38, 3) := by decide +kernel
theorem d_Mo_shape_762 : decode prog_8_method_17_code 762 = .ok (.aload_n 0, 1) := by decide +kernel
theorem d_Mo_shape_763 : decode prog_8_method_17_code 763 = .ok (.iload_n 1, 1) := by decide +kernel
theorem d_Mo_shape_764 : decode prog_8_method_17_code 764 = .ok (.aload_n 0, 1) := by decide +kernel
theorem d_Mo_shape_765 : decode prog_8_method_17_code 765 = .ok (.getfield 13, 3) := by decide +kernel
theorem d_Mo_shape_768 : decode prog_8_method_17_code 768 = .ok (.iload_n 3, 1) := by decide +kernel
theorem d_Mo_shape_769 : decode prog_8_method_17_code 769 = .ok (.iaload, 1) := by decide +kernel
theorem d_Mo_shape_770 : decode prog_8_method_17_code 770 = .ok (.aload_n 0, 1) := by decide +kernel
theorem d_Mo_shape_771 : decode prog_8_method_17_code 771 = .ok (.getfield 38, 3) := by decide +kernel
theorem d_Mo_shape_774 : decode prog_8_method_17_code 774 = .ok (.iload_n 1, 1) := by decide +kernel
theorem d_Mo_shape_775 : decode prog_8_method_17_code 775 = .ok (.iaload, 1) := by decide +kernel
theorem d_Mo_shape_776 : decode prog_8_method_17_code 776 = .ok (.aload_n 0, 1) := by decide +kernel
theorem d_Mo_shape_777 : decode prog_8_method_17_code 777 = .ok (.getfield 35, 3) := by decide +kernel
theorem d_Mo_shape_780 : decode prog_8_method_17_code 780 = .ok (.iload_n 1, 1) := by decide +kernel
theorem d_Mo_shape_781 : decode prog_8_method_17_code 781 = .ok (.iaload, 1) := by decide +kernel
theorem d_Mo_shape_782 : decode prog_8_method_17_code 782 = .ok (.isub, 1) := by decide +kernel
theorem d_Mo_shape_783 : decode prog_8_method_17_code 783 = .ok (.iconst 1, 1) := by decide +kernel
theorem d_Mo_shape_784 : decode prog_8_method_17_code 784 = .ok (.iadd, 1) := by decide +kernel
theorem d_Mo_shape_785 : decode prog_8_method_17_code 785 = .ok (.iload 9, 2) := by decide +kernel
theorem d_Mo_shape_787 : decode prog_8_method_17_code 787 = .ok (.invokevirtual 100, 3) := by decide +kernel
theorem d_Mo_shape_790 : decode prog_8_method_17_code 790 = .ok (.ifCond .eq 7, 3) := by decide +kernel
theorem d_Mo_shape_793 : decode prog_8_method_17_code 793 = .ok (.iconst 1, 1) := by decide +kernel
theorem d_Mo_shape_794 : decode prog_8_method_17_code 794 = .ok (.goto 4, 3) := by decide +kernel
theorem d_Mo_shape_797 : decode prog_8_method_17_code 797 = .ok (.iconst 0, 1) := by decide +kernel
theorem d_Mo_shape_798 : decode prog_8_method_17_code 798 = .ok (.ireturn, 1) := by decide +kernel
theorem d_Mo_shape_799 : decode prog_8_method_17_code 799 = .ok (.iload_n 2, 1) := by decide +kernel
theorem d_Mo_shape_800 : decode prog_8_method_17_code 800 = .ok (.bipush 15, 2) := by decide +kernel
theorem d_Mo_shape_802 : decode prog_8_method_17_code 802 = .ok (.if_icmp .ne 54, 3) := by decide +kernel
theorem d_Mo_shape_805 : decode prog_8_method_17_code 805 = .ok (.aload_n 0, 1) := by decide +kernel
theorem d_Mo_shape_806 : decode prog_8_method_17_code 806 = .ok (.getfield 13, 3) := by decide +kernel
theorem d_Mo_shape_809 : decode prog_8_method_17_code 809 = .ok (.iload 4, 2) := by decide +kernel
theorem d_Mo_shape_811 : decode prog_8_method_17_code 811 = .ok (.iaload, 1) := by decide +kernel
theorem d_Mo_shape_812 : decode prog_8_method_17_code 812 = .ok (.iconst 1, 1) := by decide +kernel
theorem d_Mo_shape_813 : decode prog_8_method_17_code 813 = .ok (.if_icmp .ne 41, 3) := by decide +kernel
theorem d_Mo_shape_816 : decode prog_8_method_17_code 816 = .ok (.aload_n 0, 1) := by decide +kernel
theorem d_Mo_shape_817 : decode prog_8_method_17_code 817 = .ok (.getfield 16, 3) := by decide +kernel
theorem d_Mo_shape_820 : decode prog_8_method_17_code 820 = .ok (.iload 4, 2) := by decide +kernel
theorem d_Mo_shape_822 : decode prog_8_method_17_code 822 = .ok (.iaload, 1) := by decide +kernel
theorem d_Mo_shape_823 : decode prog_8_method_17_code 823 = .ok (.iconst 1, 1) := by decide +kernel
theorem d_Mo_shape_824 : decode prog_8_method_17_code 824 = .ok (.if_icmp .ne 30, 3) := by decide +kernel
theorem d_Mo_shape_827 : decode prog_8_method_17_code 827 = .ok (.aload_n 0, 1) := by decide +kernel
theorem d_Mo_shape_828 : decode prog_8_method_17_code 828 = .ok (.iload_n 1, 1) := by decide +kernel
theorem d_Mo_shape_829 : decode prog_8_method_17_code 829 = .ok (.aload_n 0, 1) := by decide +kernel
theorem d_Mo_shape_830 : decode prog_8_method_17_code 830 = .ok (.getfield 13, 3) := by decide +kernel
theorem d_Mo_shape_833 : decode prog_8_method_17_code 833 = .ok (.iload_n 3, 1) := by decide +kernel
theorem d_Mo_shape_834 : decode prog_8_method_17_code 834 = .ok (.iaload, 1) := by decide +kernel
theorem d_Mo_shape_835 : decode prog_8_method_17_code 835 = .ok (.aload_n 0, 1) := by decide +kernel
theorem d_Mo_shape_836 : decode prog_8_method_17_code 836 = .ok (.getfield 19, 3) := by decide +kernel
theorem d_Mo_shape_839 : decode prog_8_method_17_code 839 = .ok (.iload 4, 2) := by decide +kernel
theorem d_Mo_shape_841 : decode prog_8_method_17_code 841 = .ok (.iaload, 1) := by decide +kernel
theorem d_Mo_shape_842 : decode prog_8_method_17_code 842 = .ok (.iload 9, 2) := by decide +kernel
theorem d_Mo_shape_844 : decode prog_8_method_17_code 844 = .ok (.invokevirtual 100, 3) := by decide +kernel
theorem d_Mo_shape_847 : decode prog_8_method_17_code 847 = .ok (.ifCond .eq 7, 3) := by decide +kernel
theorem d_Mo_shape_850 : decode prog_8_method_17_code 850 = .ok (.iconst 1, 1) := by decide +kernel
theorem d_Mo_shape_851 : decode prog_8_method_17_code 851 = .ok (.goto 4, 3) := by decide +kernel
theorem d_Mo_shape_854 : decode prog_8_method_17_code 854 = .ok (.iconst 0, 1) := by decide +kernel
theorem d_Mo_shape_855 : decode prog_8_method_17_code 855 = .ok (.ireturn, 1) := by decide +kernel
theorem d_Mo_shape_856 : decode prog_8_method_17_code 856 = .ok (.iload_n 2, 1) := by decide +kernel
theorem d_Mo_shape_857 : decode prog_8_method_17_code 857 = .ok (.bipush 16, 2) := by decide +kernel
theorem d_Mo_shape_859 : decode prog_8_method_17_code 859 = .ok (.if_icmp .ne 103, 3) := by decide +kernel
theorem d_Mo_shape_862 : decode prog_8_method_17_code 862 = .ok (.iload 9, 2) := by decide +kernel
theorem d_Mo_shape_864 : decode prog_8_method_17_code 864 = .ok (.iconst 2, 1) := by decide +kernel
theorem d_Mo_shape_865 : decode prog_8_method_17_code 865 = .ok (.aload_n 0, 1) := by decide +kernel
theorem d_Mo_shape_866 : decode prog_8_method_17_code 866 = .ok (.getfield 38, 3) := by decide +kernel
theorem d_Mo_shape_869 : decode prog_8_method_17_code 869 = .ok (.iload_n 1, 1) := by decide +kernel
theorem d_Mo_shape_870 : decode prog_8_method_17_code 870 = .ok (.iaload, 1) := by decide +kernel
theorem d_Mo_shape_871 : decode prog_8_method_17_code 871 = .ok (.imul, 1) := by decide +kernel
theorem d_Mo_shape_872 : decode prog_8_method_17_code 872 = .ok (.iadd, 1) := by decide +kernel
theorem d_Mo_shape_873 : decode prog_8_method_17_code 873 = .ok (.aload_n 0, 1) := by decide +kernel
theorem d_Mo_shape_874 : decode prog_8_method_17_code 874 = .ok (.getfield 19, 3) := by decide +kernel
theorem d_Mo_shape_877 : decode prog_8_method_17_code 877 = .ok (.iload 4, 2) := by decide +kernel
theorem d_Mo_shape_879 : decode prog_8_method_17_code 879 = .ok (.iaload, 1) := by decide +kernel
theorem d_Mo_shape_880 : decode prog_8_method_17_code 880 = .ok (.isub, 1) := by decide +kernel
theorem d_Mo_shape_881 : decode prog_8_method_17_code 881 = .ok (.istore 10, 2) := by decide +kernel
theorem d_Mo_shape_883 : decode prog_8_method_17_code 883 = .ok (.iload 7, 2) := by decide +kernel
theorem d_Mo_shape_885 : decode prog_8_method_17_code 885 = .ok (.ifCond .eq 75, 3) := by decide +kernel
theorem d_Mo_shape_888 : decode prog_8_method_17_code 888 = .ok (.aload_n 0, 1) := by decide +kernel
theorem d_Mo_shape_889 : decode prog_8_method_17_code 889 = .ok (.getfield 16, 3) := by decide +kernel
theorem d_Mo_shape_892 : decode prog_8_method_17_code 892 = .ok (.iload 4, 2) := by decide +kernel
theorem d_Mo_shape_894 : decode prog_8_method_17_code 894 = .ok (.iaload, 1) := by decide +kernel
theorem d_Mo_shape_895 : decode prog_8_method_17_code 895 = .ok (.iconst 1, 1) := by decide +kernel
theorem d_Mo_shape_896 : decode prog_8_method_17_code 896 = .ok (.if_icmp .ne 64, 3) := by decide +kernel
theorem d_Mo_shape_899 : decode prog_8_method_17_code 899 = .ok (.aload_n 0, 1) := by decide +kernel
theorem d_Mo_shape_900 : decode prog_8_method_17_code 900 = .ok (.aload_n 0, 1) := by decide +kernel
theorem d_Mo_shape_901 : decode prog_8_method_17_code 901 = .ok (.getfield 38, 3) := by decide +kernel
theorem d_Mo_shape_904 : decode prog_8_method_17_code 904 = .ok (.iload_n 1, 1) := by decide +kernel
theorem d_Mo_shape_905 : decode prog_8_method_17_code 905 = .ok (.iaload, 1) := by decide +kernel
theorem d_Mo_shape_906 : decode prog_8_method_17_code 906 = .ok (.iconst 0, 1) := by decide +kernel
theorem d_Mo_shape_907 : decode prog_8_method_17_code 907 = .ok (.iconst 2, 1) := by decide +kernel
theorem d_Mo_shape_908 : decode prog_8_method_17_code 908 = .ok (.invokevirtual 68, 3) := by decide +kernel
theorem d_Mo_shape_911 : decode prog_8_method_17_code 911 = .ok (.ifCond .ne 49, 3) := by decide +kernel
theorem d_Mo_shape_914 : decode prog_8_method_17_code 914 = .ok (.aload_n 0, 1) := by decide +kernel
theorem d_Mo_shape_915 : decode prog_8_method_17_code 915 = .ok (.aload_n 0, 1) := by decide +kernel
theorem d_Mo_shape_916 : decode prog_8_method_17_code 916 = .ok (.getfield 35, 3) := by decide +kernel
theorem d_Mo_shape_919 : decode prog_8_method_17_code 919 = .ok (.iload_n 1, 1) := by decide +kernel
theorem d_Mo_shape_920 : decode prog_8_method_17_code 920 = .ok (.iaload, 1) := by decide +kernel
theorem d_Mo_shape_921 : decode prog_8_method_17_code 921 = .ok (.iconst 1, 1) := by decide +kernel
theorem d_Mo_shape_922 : decode prog_8_method_17_code 922 = .ok (.iconst 2, 1) := by decide +kernel
theorem d_Mo_shape_923 : decode prog_8_method_17_code 923 = .ok (.invokevirtual 68, 3) := by decide +kernel
theorem d_Mo_shape_926 : decode prog_8_method_17_code 926 = .ok (.ifCond .ne 34, 3) := by decide +kernel
theorem d_Mo_shape_929 : decode prog_8_method_17_code 929 = .ok (.iload 10, 2) := by decide +kernel
theorem d_Mo_shape_931 : decode prog_8_method_17_code 931 = .ok (.ifCond .lt 29, 3) := by decide +kernel
theorem d_Mo_shape_934 : decode prog_8_method_17_code 934 = .ok (.aload_n 0, 1) := by decide +kernel
theorem d_Mo_shape_935 : decode prog_8_method_17_code 935 = .ok (.iload_n 1, 1) := by decide +kernel
theorem d_Mo_shape_936 : decode prog_8_method_17_code 936 = .ok (.iconst 0, 1) := by decide +kernel
theorem d_Mo_shape_937 : decode prog_8_method_17_code 937 = .ok (.iload 8, 2) := by decide +kernel
theorem d_Mo_shape_939 : decode prog_8_method_17_code 939 = .ok (.iload 10, 2) := by decide +kernel
theorem d_Mo_shape_941 : decode prog_8_method_17_code 941 = .ok (.aload_n 0, 1) := by decide +kernel
theorem d_Mo_shape_942 : decode prog_8_method_17_code 942 = .ok (.getfield 35, 3) := by decide +kernel
theorem d_Mo_shape_945 : decode prog_8_method_17_code 945 = .ok (.iload_n 1, 1) := by decide +kernel
theorem d_Mo_shape_946 : decode prog_8_method_17_code 946 = .ok (.iaload, 1) := by decide +kernel
theorem d_Mo_shape_947 : decode prog_8_method_17_code 947 = .ok (.idiv, 1) := by decide +kernel
theorem d_Mo_shape_948 : decode prog_8_method_17_code 948 = .ok (.iconst 1, 1) := by decide +kernel
theorem d_Mo_shape_949 : decode prog_8_method_17_code 949 = .ok (.iadd, 1) := by decide +kernel
theorem d_Mo_shape_950 : decode prog_8_method_17_code 950 = .ok (.invokevirtual 100, 3) := by decide +kernel
theorem d_Mo_shape_953 : decode prog_8_method_17_code 953 = .ok (.ifCond .eq 7, 3) := by decide +kernel
theorem d_Mo_shape_956 : decode prog_8_method_17_code 956 = .ok (.iconst 1, 1) := by decide +kernel
theorem d_Mo_shape_957 : decode prog_8_method_17_code 957 = .ok (.goto 4, 3) := by decide +kernel
theorem d_Mo_shape_960 : decode prog_8_method_17_code 960 = .ok (.iconst 0, 1) := by decide +kernel
theorem d_Mo_shape_961 : decode prog_8_method_17_code 961 = .ok (.ireturn, 1) := by decide +kernel
theorem d_Mo_shape_962 : decode prog_8_method_17_code 962 = .ok (.aload_n 0, 1) := by decide +kernel
theorem d_Mo_shape_963 : decode prog_8_method_17_code 963 = .ok (.getfield 13, 3) := by decide +kernel
theorem d_Mo_shape_966 : decode prog_8_method_17_code 966 = .ok (.iload 5, 2) := by decide +kernel
theorem d_Mo_shape_968 : decode prog_8_method_17_code 968 = .ok (.iaload, 1) := by decide +kernel
theorem d_Mo_shape_969 : decode prog_8_method_17_code 969 = .ok (.iconst 1, 1) := by decide +kernel
theorem d_Mo_shape_970 : decode prog_8_method_17_code 970 = .ok (.if_icmp .ne 76, 3) := by decide +kernel
theorem d_Mo_shape_973 : decode prog_8_method_17_code 973 = .ok (.aload_n 0, 1) := by decide +kernel
theorem d_Mo_shape_974 : decode prog_8_method_17_code 974 = .ok (.getfield 16, 3) := by decide +kernel
theorem d_Mo_shape_977 : decode prog_8_method_17_code 977 = .ok (.iload 5, 2) := by decide +kernel
theorem d_Mo_shape_979 : decode prog_8_method_17_code 979 = .ok (.iaload, 1) := by decide +kernel
theorem d_Mo_shape_980 : decode prog_8_method_17_code 980 = .ok (.iconst 1, 1) := by decide +kernel
theorem d_Mo_shape_981 : decode prog_8_method_17_code 981 = .ok (.if_icmp .ne 65, 3) := by decide +kernel
theorem d_Mo_shape_984 : decode prog_8_method_17_code 984 = .ok (.aload_n 0, 1) := by decide +kernel
theorem d_Mo_shape_985 : decode prog_8_method_17_code 985 = .ok (.getfield 19, 3) := by decide +kernel
theorem d_Mo_shape_988 : decode prog_8_method_17_code 988 = .ok (.iload 5, 2) := by decide +kernel
theorem d_Mo_shape_990 : decode prog_8_method_17_code 990 = .ok (.iaload, 1) := by decide +kernel
theorem d_Mo_shape_991 : decode prog_8_method_17_code 991 = .ok (.iconst 1, 1) := by decide +kernel
theorem d_Mo_shape_992 : decode prog_8_method_17_code 992 = .ok (.if_icmp .ne 54, 3) := by decide +kernel
theorem d_Mo_shape_995 : decode prog_8_method_17_code 995 = .ok (.iload 6, 2) := by decide +kernel
theorem d_Mo_shape_997 : decode prog_8_method_17_code 997 = .ok (.ifCond .eq 49, 3) := by decide +kernel
theorem d_Mo_shape_1000 : decode prog_8_method_17_code 1000 = .ok (.iload 8, 2) := by decide +kernel
theorem d_Mo_shape_1002 : decode prog_8_method_17_code 1002 = .ok (.aload_n 0, 1) := by decide +kernel
theorem d_Mo_shape_1003 : decode prog_8_method_17_code 1003 = .ok (.getfield 16, 3) := by decide +kernel
theorem d_Mo_shape_1006 : decode prog_8_method_17_code 1006 = .ok (.iload 4, 2) := by decide +kernel
theorem d_Mo_shape_1008 : decode prog_8_method_17_code 1008 = .ok (.iaload, 1) := by decide +kernel
theorem d_Mo_shape_1009 : decode prog_8_method_17_code 1009 = .ok (.if_icmp .ne 37, 3) := by decide +kernel
theorem d_Mo_shape_1012 : decode prog_8_method_17_code 1012 = .ok (.iload 9, 2) := by decide +kernel
theorem d_Mo_shape_1014 : decode prog_8_method_17_code 1014 = .ok (.aload_n 0, 1) := by decide +kernel
theorem d_Mo_shape_1015 : decode prog_8_method_17_code 1015 = .ok (.getfield 19, 3) := by decide +kernel
theorem d_Mo_shape_1018 : decode prog_8_method_17_code 1018 = .ok (.iload 4, 2) := by decide +kernel
theorem d_Mo_shape_1020 : decode prog_8_method_17_code 1020 = .ok (.iaload, 1) := by decide +kernel
theorem d_Mo_shape_1021 : decode prog_8_method_17_code 1021 = .ok (.if_icmp .ne 25, 3) := by decide +kernel
theorem d_Mo_shape_1024 : decode prog_8_method_17_code 1024 = .ok (.aload_n 0, 1) := by decide +kernel
theorem d_Mo_shape_1025 : decode prog_8_method_17_code 1025 = .ok (.iload_n 1, 1) := by decide +kernel
theorem d_Mo_shape_1026 : decode prog_8_method_17_code 1026 = .ok (.aload_n 0, 1) := by decide +kernel
theorem d_Mo_shape_1027 : decode prog_8_method_17_code 1027 = .ok (.getfield 13, 3) := by decide +kernel
theorem d_Mo_shape_1030 : decode prog_8_method_17_code 1030 = .ok (.iload_n 3, 1) := by decide +kernel
theorem d_Mo_shape_1031 : decode prog_8_method_17_code 1031 = .ok (.iaload, 1) := by decide +kernel
theorem d_Mo_shape_1032 : decode prog_8_method_17_code 1032 = .ok (.iload 8, 2) := by decide +kernel
theorem d_Mo_shape_1034 : decode prog_8_method_17_code 1034 = .ok (.iload 9, 2) := by decide +kernel
theorem d_Mo_shape_1036 : decode prog_8_method_17_code 1036 = .ok (.invokevirtual 100, 3) := by decide +kernel
theorem d_Mo_shape_1039 : decode prog_8_method_17_code 1039 = .ok (.ifCond .eq 7, 3) := by decide +kernel
theorem d_Mo_shape_1042 : decode prog_8_method_17_code 1042 = .ok (.iconst 1, 1) := by decide +kernel
theorem d_Mo_shape_1043 : decode prog_8_method_17_code 1043 = .ok (.goto 4, 3) := by decide +kernel
theorem d_Mo_shape_1046 : decode prog_8_method_17_code 1046 = .ok (.iconst 0, 1) := by decide +kernel
theorem d_Mo_shape_1047 : decode prog_8_method_17_code 1047 = .ok (.ireturn, 1) := by decide +kernel
theorem d_Mo_fitting_0 : decode prog_8_method_14_code 0 = .ok (.aload_n 0, 1) := by decide +kernel
theorem d_Mo_fitting_1 : decode prog_8_method_14_code 1 = .ok (.aload_n 0, 1) := by decide +kernel
theorem d_Mo_fitting_2 : decode prog_8_method_14_code 2 = .ok (.getfield 16, 3) := by decide +kernel
theorem d_Mo_fitting_5 : decode prog_8_method_14_code 5 = .ok (.iload_n 1, 1) := by decide +kernel
theorem d_Mo_fitting_6 : decode prog_8_method_14_code 6 = .ok (.iaload, 1) := by decide +kernel
theorem d_Mo_fitting_7 : decode prog_8_method_14_code 7 = .ok (.aload_n 0, 1) := by decide +kernel
theorem d_Mo_fitting_8 : decode prog_8_method_14_code 8 = .ok (.getfield 16, 3) := by decide +kernel
theorem d_Mo_fitting_11 : decode prog_8_method_14_code 11 = .ok (.iload_n 2, 1) := by decide +kernel
theorem d_Mo_fitting_12 : decode prog_8_method_14_code 12 = .ok (.iaload, 1) := by decide +kernel
theorem d_Mo_fitting_13 : decode prog_8_method_14_code 13 = .ok (.invokevirtual 89, 3) := by decide +kernel
theorem d_Mo_fitting_16 : decode prog_8_method_14_code 16 = .ok (.ifCond .eq 26, 3) := by decide +kernel
theorem d_Mo_fitting_19 : decode prog_8_method_14_code 19 = .ok (.aload_n 0, 1) := by decide +kernel
theorem d_Mo_fitting_20 : decode prog_8_method_14_code 20 = .ok (.aload_n 0, 1) := by decide +kernel
theorem d_Mo_fitting_21 : decode prog_8_method_14_code 21 = .ok (.getfield 19, 3) := by decide +kernel
theorem d_Mo_fitting_24 : decode prog_8_method_14_code 24 = .ok (.iload_n 1, 1) := by decide +kernel
theorem d_Mo_fitting_25 : decode prog_8_method_14_code 25 = .ok (.iaload, 1) := by decide +kernel
theorem d_Mo_fitting_26 : decode prog_8_method_14_code 26 = .ok (.aload_n 0, 1) := by decide +kernel
theorem d_Mo_fitting_27 : decode prog_8_method_14_code 27 = .ok (.getfield 19, 3) := by decide +kernel
theorem d_Mo_fitting_30 : decode prog_8_method_14_code 30 = .ok (.iload_n 2, 1) := by decide +kernel
theorem d_Mo_fitting_31 : decode prog_8_method_14_code 31 = .ok (.iaload, 1) := by decide +kernel
theorem d_Mo_fitting_32 : decode prog_8_method_14_code 32 = .ok (.invokevirtual 89, 3) := by decide +kernel
theorem d_Mo_fitting_35 : decode prog_8_method_14_code 35 = .ok (.ifCond .eq 7, 3) := by decide +kernel
theorem d_Mo_fitting_38 : decode prog_8_method_14_code 38 = .ok (.iconst 1, 1) := by decide +kernel
theorem d_Mo_fitting_39 : decode prog_8_method_14_code 39 = .ok (.goto 4, 3) := by decide +kernel
theorem d_Mo_fitting_42 : decode prog_8_method_14_code 42 = .ok (.iconst 0, 1) := by decide +kernel
theorem d_Mo_fitting_43 : decode prog_8_method_14_code 43 = .ok (.ireturn, 1) := by decide +kernel
theorem d_Mo_near_0 : decode prog_8_method_13_code 0 = .ok (.iload_n 1, 1) := by decide +kernel
theorem d_Mo_near_1 : decode prog_8_method_13_code 1 = .ok (.iload_n 2, 1) := by decide +kernel
theorem d_Mo_near_2 : decode prog_8_method_13_code 2 = .ok (.if_icmp .eq 13, 3) := by decide +kernel
theorem d_Mo_near_5 : decode prog_8_method_13_code 5 = .ok (.iload_n 1, 1) := by decide +kernel
theorem d_Mo_near_6 : decode prog_8_method_13_code 6 = .ok (.iconst 1, 1) := by decide +kernel
theorem d_Mo_near_7 : decode prog_8_method_13_code 7 = .ok (.if_icmp .eq 8, 3) := by decide +kernel
theorem d_Mo_near_10 : decode prog_8_method_13_code 10 = .ok (.iload_n 2, 1) := by decide +kernel
theorem d_Mo_near_11 : decode prog_8_method_13_code 11 = .ok (.iconst 1, 1) := by decide +kernel
theorem d_Mo_near_12 : decode prog_8_method_13_code 12 = .ok (.if_icmp .ne 7, 3) := by decide +kernel
theorem d_Mo_near_15 : decode prog_8_method_13_code 15 = .ok (.iconst 1, 1) := by decide +kernel
theorem d_Mo_near_16 : decode prog_8_method_13_code 16 = .ok (.goto 4, 3) := by decide +kernel
theorem d_Mo_near_19 : decode prog_8_method_13_code 19 = .ok (.iconst 0, 1) := by decide +kernel
theorem d_Mo_near_20 : decode prog_8_method_13_code 20 = .ok (.ireturn, 1) := by decide +kernel
theorem d_Mo_most_0 : decode prog_8_method_16_code 0 = .ok (.iload_n 1, 1) := by decide +kernel
theorem d_Mo_most_1 : decode prog_8_method_16_code 1 = .ok (.iload_n 2, 1) := by decide +kernel
theorem d_Mo_most_2 : decode prog_8_method_16_code 2 = .ok (.if_icmp .le 7, 3) := by decide +kernel
theorem d_Mo_most_5 : decode prog_8_method_16_code 5 = .ok (.iload_n 1, 1) := by decide +kernel
theorem d_Mo_most_6 : decode prog_8_method_16_code 6 = .ok (.goto 4, 3) := by decide +kernel
theorem d_Mo_most_9 : decode prog_8_method_16_code 9 = .ok (.iload_n 2, 1) := by decide +kernel
theorem d_Mo_most_10 : decode prog_8_method_16_code 10 = .ok (.ireturn, 1) := by decide +kernel
theorem d_Mo_give_0 : decode prog_8_method_15_code 0 = .ok (.aload_n 0, 1) := by decide +kernel
theorem d_Mo_give_1 : decode prog_8_method_15_code 1 = .ok (.getfield 32, 3) := by decide +kernel
theorem d_Mo_give_4 : decode prog_8_method_15_code 4 = .ok (.iload_n 1, 1) := by decide +kernel
theorem d_Mo_give_5 : decode prog_8_method_15_code 5 = .ok (.iaload, 1) := by decide +kernel
theorem d_Mo_give_6 : decode prog_8_method_15_code 6 = .ok (.istore 5, 2) := by decide +kernel
theorem d_Mo_give_8 : decode prog_8_method_15_code 8 = .ok (.aload_n 0, 1) := by decide +kernel
theorem d_Mo_give_9 : decode prog_8_method_15_code 9 = .ok (.getfield 13, 3) := by decide +kernel
theorem d_Mo_give_12 : decode prog_8_method_15_code 12 = .ok (.iload 5, 2) := by decide +kernel
theorem d_Mo_give_14 : decode prog_8_method_15_code 14 = .ok (.iload_n 2, 1) := by decide +kernel
theorem d_Mo_give_15 : decode prog_8_method_15_code 15 = .ok (.iastore, 1) := by decide +kernel
theorem d_Mo_give_16 : decode prog_8_method_15_code 16 = .ok (.aload_n 0, 1) := by decide +kernel
theorem d_Mo_give_17 : decode prog_8_method_15_code 17 = .ok (.getfield 16, 3) := by decide +kernel
theorem d_Mo_give_20 : decode prog_8_method_15_code 20 = .ok (.iload 5, 2) := by decide +kernel
theorem d_Mo_give_22 : decode prog_8_method_15_code 22 = .ok (.iload_n 3, 1) := by decide +kernel
theorem d_Mo_give_23 : decode prog_8_method_15_code 23 = .ok (.iastore, 1) := by decide +kernel
theorem d_Mo_give_24 : decode prog_8_method_15_code 24 = .ok (.aload_n 0, 1) := by decide +kernel
theorem d_Mo_give_25 : decode prog_8_method_15_code 25 = .ok (.getfield 19, 3) := by decide +kernel
theorem d_Mo_give_28 : decode prog_8_method_15_code 28 = .ok (.iload 5, 2) := by decide +kernel
theorem d_Mo_give_30 : decode prog_8_method_15_code 30 = .ok (.iload 4, 2) := by decide +kernel
theorem d_Mo_give_32 : decode prog_8_method_15_code 32 = .ok (.iastore, 1) := by decide +kernel
theorem d_Mo_give_33 : decode prog_8_method_15_code 33 = .ok (.iload_n 3, 1) := by decide +kernel
theorem d_Mo_give_34 : decode prog_8_method_15_code 34 = .ok (.iconst 1, 1) := by decide +kernel
theorem d_Mo_give_35 : decode prog_8_method_15_code 35 = .ok (.if_icmp .lt 24, 3) := by decide +kernel
theorem d_Mo_give_38 : decode prog_8_method_15_code 38 = .ok (.iload_n 3, 1) := by decide +kernel
theorem d_Mo_give_39 : decode prog_8_method_15_code 39 = .ok (.iconst 4, 1) := by decide +kernel
theorem d_Mo_give_40 : decode prog_8_method_15_code 40 = .ok (.if_icmp .gt 19, 3) := by decide +kernel
theorem d_Mo_give_43 : decode prog_8_method_15_code 43 = .ok (.iload 4, 2) := by decide +kernel
theorem d_Mo_give_45 : decode prog_8_method_15_code 45 = .ok (.iconst 1, 1) := by decide +kernel
theorem d_Mo_give_46 : decode prog_8_method_15_code 46 = .ok (.if_icmp .lt 13, 3) := by decide +kernel
theorem d_Mo_give_49 : decode prog_8_method_15_code 49 = .ok (.iload 4, 2) := by decide +kernel
theorem d_Mo_give_51 : decode prog_8_method_15_code 51 = .ok (.iconst 4, 1) := by decide +kernel
theorem d_Mo_give_52 : decode prog_8_method_15_code 52 = .ok (.if_icmp .gt 7, 3) := by decide +kernel
theorem d_Mo_give_55 : decode prog_8_method_15_code 55 = .ok (.iconst 1, 1) := by decide +kernel
theorem d_Mo_give_56 : decode prog_8_method_15_code 56 = .ok (.goto 4, 3) := by decide +kernel
theorem d_Mo_give_59 : decode prog_8_method_15_code 59 = .ok (.iconst 0, 1) := by decide +kernel
theorem d_Mo_give_60 : decode prog_8_method_15_code 60 = .ok (.ireturn, 1) := by decide +kernel
