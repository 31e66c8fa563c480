theorem d_Sh_find_290 : decode prog_3_method_2_code 290 = .ok (.getfield 15, 3) := by decide +kernel
theorem d_Sh_find_293 : decode prog_3_method_2_code 293 = .ok (.aload_n 2, 1) := by decide +kernel
theorem d_Sh_find_294 : decode prog_3_method_2_code 294 = .ok (.getfield 15, 3) := by decide +kernel
theorem d_Sh_find_297 : decode prog_3_method_2_code 297 = .ok (.if_icmp .ne 36, 3) := by decide +kernel
theorem d_Sh_find_300 : decode prog_3_method_2_code 300 = .ok (.aload_n 1, 1) := by decide +kernel
theorem d_Sh_find_301 : decode prog_3_method_2_code 301 = .ok (.aload_n 2, 1) := by decide +kernel
theorem d_Sh_find_302 : decode prog_3_method_2_code 302 = .ok (.aload_n 1, 1) := by decide +kernel
theorem d_Sh_find_303 : decode prog_3_method_2_code 303 = .ok (.getfield 15, 3) := by decide +kernel
theorem d_Sh_find_306 : decode prog_3_method_2_code 306 = .ok (.aload 4, 2) := by decide +kernel
theorem d_Sh_find_308 : decode prog_3_method_2_code 308 = .ok (.invokestatic 20, 3) := by decide +kernel
theorem d_Sh_find_311 : decode prog_3_method_2_code 311 = .ok (.ifCond .eq 22, 3) := by decide +kernel
theorem d_Sh_find_314 : decode prog_3_method_2_code 314 = .ok (.aload 4, 2) := by decide +kernel
theorem d_Sh_find_316 : decode prog_3_method_2_code 316 = .ok (.aload_n 3, 1) := by decide +kernel
theorem d_Sh_find_317 : decode prog_3_method_2_code 317 = .ok (.aload_n 1, 1) := by decide +kernel
theorem d_Sh_find_318 : decode prog_3_method_2_code 318 = .ok (.getfield 15, 3) := by decide +kernel
theorem d_Sh_find_321 : decode prog_3_method_2_code 321 = .ok (.aload 4, 2) := by decide +kernel
theorem d_Sh_find_323 : decode prog_3_method_2_code 323 = .ok (.invokestatic 20, 3) := by decide +kernel
theorem d_Sh_find_326 : decode prog_3_method_2_code 326 = .ok (.ifCond .eq 7, 3) := by decide +kernel
theorem d_Sh_find_329 : decode prog_3_method_2_code 329 = .ok (.iconst 1, 1) := by decide +kernel
theorem d_Sh_find_330 : decode prog_3_method_2_code 330 = .ok (.goto 4, 3) := by decide +kernel
theorem d_Sh_find_333 : decode prog_3_method_2_code 333 = .ok (.iconst 0, 1) := by decide +kernel
theorem d_Sh_find_334 : decode prog_3_method_2_code 334 = .ok (.ireturn, 1) := by decide +kernel
theorem d_Sh_find_335 : decode prog_3_method_2_code 335 = .ok (.aload_n 0, 1) := by decide +kernel
theorem d_Sh_find_336 : decode prog_3_method_2_code 336 = .ok (.getfield 40, 3) := by decide +kernel
theorem d_Sh_find_339 : decode prog_3_method_2_code 339 = .ok (.aload_n 1, 1) := by decide +kernel
theorem d_Sh_find_340 : decode prog_3_method_2_code 340 = .ok (.aload 4, 2) := by decide +kernel
theorem d_Sh_find_342 : decode prog_3_method_2_code 342 = .ok (.invokestatic 47, 3) := by decide +kernel
theorem d_Sh_find_345 : decode prog_3_method_2_code 345 = .ok (.ireturn, 1) := by decide +kernel
theorem d_Sh_find_346 : decode prog_3_method_2_code 346 = .ok (.aload 4, 2) := by decide +kernel
theorem d_Sh_find_348 : decode prog_3_method_2_code 348 = .ok (.iconst 1, 1) := by decide +kernel
theorem d_Sh_find_349 : decode prog_3_method_2_code 349 = .ok (.aload_n 1, 1) := by decide +kernel
theorem d_Sh_find_350 : decode prog_3_method_2_code 350 = .ok (.getfield 33, 3) := by decide +kernel
theorem d_Sh_find_353 : decode prog_3_method_2_code 353 = .ok (.iconst 1, 1) := by decide +kernel
theorem d_Sh_find_354 : decode prog_3_method_2_code 354 = .ok (.invokevirtual 36, 3) := by decide +kernel
theorem d_Sh_find_357 : decode prog_3_method_2_code 357 = .ok (.ireturn, 1) := by decide +kernel
theorem d_Sh_find_358 : decode prog_3_method_2_code 358 = .ok (.aload_n 1, 1) := by decide +kernel
theorem d_Sh_find_359 : decode prog_3_method_2_code 359 = .ok (.getfield 15, 3) := by decide +kernel
theorem d_Sh_find_362 : decode prog_3_method_2_code 362 = .ok (.aload_n 2, 1) := by decide +kernel
theorem d_Sh_find_363 : decode prog_3_method_2_code 363 = .ok (.getfield 15, 3) := by decide +kernel
theorem d_Sh_find_366 : decode prog_3_method_2_code 366 = .ok (.if_icmp .ne 21, 3) := by decide +kernel
theorem d_Sh_find_369 : decode prog_3_method_2_code 369 = .ok (.aload_n 0, 1) := by decide +kernel
theorem d_Sh_find_370 : decode prog_3_method_2_code 370 = .ok (.getfield 40, 3) := by decide +kernel
theorem d_Sh_find_373 : decode prog_3_method_2_code 373 = .ok (.aload_n 1, 1) := by decide +kernel
theorem d_Sh_find_374 : decode prog_3_method_2_code 374 = .ok (.aload_n 2, 1) := by decide +kernel
theorem d_Sh_find_375 : decode prog_3_method_2_code 375 = .ok (.aload 4, 2) := by decide +kernel
theorem d_Sh_find_377 : decode prog_3_method_2_code 377 = .ok (.invokestatic 51, 3) := by decide +kernel
theorem d_Sh_find_380 : decode prog_3_method_2_code 380 = .ok (.ifCond .eq 7, 3) := by decide +kernel
theorem d_Sh_find_383 : decode prog_3_method_2_code 383 = .ok (.iconst 1, 1) := by decide +kernel
theorem d_Sh_find_384 : decode prog_3_method_2_code 384 = .ok (.goto 4, 3) := by decide +kernel
theorem d_Sh_find_387 : decode prog_3_method_2_code 387 = .ok (.iconst 0, 1) := by decide +kernel
theorem d_Sh_find_388 : decode prog_3_method_2_code 388 = .ok (.ireturn, 1) := by decide +kernel
theorem d_Sh_find_389 : decode prog_3_method_2_code 389 = .ok (.aload_n 0, 1) := by decide +kernel
theorem d_Sh_find_390 : decode prog_3_method_2_code 390 = .ok (.getfield 40, 3) := by decide +kernel
theorem d_Sh_find_393 : decode prog_3_method_2_code 393 = .ok (.ifCond .lt 56, 3) := by decide +kernel
theorem d_Sh_find_396 : decode prog_3_method_2_code 396 = .ok (.aload_n 0, 1) := by decide +kernel
theorem d_Sh_find_397 : decode prog_3_method_2_code 397 = .ok (.getfield 40, 3) := by decide +kernel
theorem d_Sh_find_400 : decode prog_3_method_2_code 400 = .ok (.aload_n 0, 1) := by decide +kernel
theorem d_Sh_find_401 : decode prog_3_method_2_code 401 = .ok (.getfield 55, 3) := by decide +kernel
theorem d_Sh_find_404 : decode prog_3_method_2_code 404 = .ok (.if_icmp .gt 45, 3) := by decide +kernel
theorem d_Sh_find_407 : decode prog_3_method_2_code 407 = .ok (.aload_n 0, 1) := by decide +kernel
theorem d_Sh_find_408 : decode prog_3_method_2_code 408 = .ok (.getfield 55, 3) := by decide +kernel
theorem d_Sh_find_411 : decode prog_3_method_2_code 411 = .ok (.aload_n 1, 1) := by decide +kernel
theorem d_Sh_find_412 : decode prog_3_method_2_code 412 = .ok (.getfield 33, 3) := by decide +kernel
theorem d_Sh_find_415 : decode prog_3_method_2_code 415 = .ok (.if_icmp .ge 34, 3) := by decide +kernel
theorem d_Sh_find_418 : decode prog_3_method_2_code 418 = .ok (.aload 4, 2) := by decide +kernel
theorem d_Sh_find_420 : decode prog_3_method_2_code 420 = .ok (.aload_n 1, 1) := by decide +kernel
theorem d_Sh_find_421 : decode prog_3_method_2_code 421 = .ok (.getfield 15, 3) := by decide +kernel
theorem d_Sh_find_424 : decode prog_3_method_2_code 424 = .ok (.aload_n 0, 1) := by decide +kernel
theorem d_Sh_find_425 : decode prog_3_method_2_code 425 = .ok (.getfield 55, 3) := by decide +kernel
theorem d_Sh_find_428 : decode prog_3_method_2_code 428 = .ok (.aload_n 0, 1) := by decide +kernel
theorem d_Sh_find_429 : decode prog_3_method_2_code 429 = .ok (.getfield 40, 3) := by decide +kernel
theorem d_Sh_find_432 : decode prog_3_method_2_code 432 = .ok (.isub, 1) := by decide +kernel
theorem d_Sh_find_433 : decode prog_3_method_2_code 433 = .ok (.iconst 1, 1) := by decide +kernel
theorem d_Sh_find_434 : decode prog_3_method_2_code 434 = .ok (.iadd, 1) := by decide +kernel
theorem d_Sh_find_435 : decode prog_3_method_2_code 435 = .ok (.aload_n 1, 1) := by decide +kernel
theorem d_Sh_find_436 : decode prog_3_method_2_code 436 = .ok (.getfield 30, 3) := by decide +kernel
theorem d_Sh_find_439 : decode prog_3_method_2_code 439 = .ok (.invokevirtual 36, 3) := by decide +kernel
theorem d_Sh_find_442 : decode prog_3_method_2_code 442 = .ok (.ifCond .eq 7, 3) := by decide +kernel
theorem d_Sh_find_445 : decode prog_3_method_2_code 445 = .ok (.iconst 1, 1) := by decide +kernel
theorem d_Sh_find_446 : decode prog_3_method_2_code 446 = .ok (.goto 4, 3) := by decide +kernel
theorem d_Sh_find_449 : decode prog_3_method_2_code 449 = .ok (.iconst 0, 1) := by decide +kernel
theorem d_Sh_find_450 : decode prog_3_method_2_code 450 = .ok (.ireturn, 1) := by decide +kernel
theorem d_Sh_find_451 : decode prog_3_method_2_code 451 = .ok (.aload_n 2, 1) := by decide +kernel
theorem d_Sh_find_452 : decode prog_3_method_2_code 452 = .ok (.getfield 15, 3) := by decide +kernel
theorem d_Sh_find_455 : decode prog_3_method_2_code 455 = .ok (.iconst 1, 1) := by decide +kernel
theorem d_Sh_find_456 : decode prog_3_method_2_code 456 = .ok (.if_icmp .ne 35, 3) := by decide +kernel
theorem d_Sh_find_459 : decode prog_3_method_2_code 459 = .ok (.aload_n 2, 1) := by decide +kernel
theorem d_Sh_find_460 : decode prog_3_method_2_code 460 = .ok (.getfield 33, 3) := by decide +kernel
theorem d_Sh_find_463 : decode prog_3_method_2_code 463 = .ok (.iconst 1, 1) := by decide +kernel
theorem d_Sh_find_464 : decode prog_3_method_2_code 464 = .ok (.if_icmp .ne 27, 3) := by decide +kernel
theorem d_Sh_find_467 : decode prog_3_method_2_code 467 = .ok (.aload 4, 2) := by decide +kernel
theorem d_Sh_find_469 : decode prog_3_method_2_code 469 = .ok (.aload_n 1, 1) := by decide +kernel
theorem d_Sh_find_470 : decode prog_3_method_2_code 470 = .ok (.getfield 15, 3) := by decide +kernel
theorem d_Sh_find_473 : decode prog_3_method_2_code 473 = .ok (.aload_n 2, 1) := by decide +kernel
theorem d_Sh_find_474 : decode prog_3_method_2_code 474 = .ok (.getfield 30, 3) := by decide +kernel
theorem d_Sh_find_477 : decode prog_3_method_2_code 477 = .ok (.aload_n 1, 1) := by decide +kernel
theorem d_Sh_find_478 : decode prog_3_method_2_code 478 = .ok (.getfield 30, 3) := by decide +kernel
theorem d_Sh_find_481 : decode prog_3_method_2_code 481 = .ok (.invokevirtual 36, 3) := by decide +kernel
theorem d_Sh_find_484 : decode prog_3_method_2_code 484 = .ok (.ifCond .eq 7, 3) := by decide +kernel
theorem d_Sh_find_487 : decode prog_3_method_2_code 487 = .ok (.iconst 1, 1) := by decide +kernel
theorem d_Sh_find_488 : decode prog_3_method_2_code 488 = .ok (.goto 4, 3) := by decide +kernel
theorem d_Sh_find_491 : decode prog_3_method_2_code 491 = .ok (.iconst 0, 1) := by decide +kernel
theorem d_Sh_find_492 : decode prog_3_method_2_code 492 = .ok (.ireturn, 1) := by decide +kernel
theorem d_Sh_find_493 : decode prog_3_method_2_code 493 = .ok (.aload_n 1, 1) := by decide +kernel
theorem d_Sh_find_494 : decode prog_3_method_2_code 494 = .ok (.aload_n 2, 1) := by decide +kernel
theorem d_Sh_find_495 : decode prog_3_method_2_code 495 = .ok (.invokestatic 26, 3) := by decide +kernel
theorem d_Sh_find_498 : decode prog_3_method_2_code 498 = .ok (.ifCond .eq 26, 3) := by decide +kernel
theorem d_Sh_find_501 : decode prog_3_method_2_code 501 = .ok (.aload_n 2, 1) := by decide +kernel
theorem d_Sh_find_502 : decode prog_3_method_2_code 502 = .ok (.getfield 33, 3) := by decide +kernel
theorem d_Sh_find_505 : decode prog_3_method_2_code 505 = .ok (.iconst 1, 1) := by decide +kernel
theorem d_Sh_find_506 : decode prog_3_method_2_code 506 = .ok (.if_icmp .ne 18, 3) := by decide +kernel
theorem d_Sh_find_509 : decode prog_3_method_2_code 509 = .ok (.aload_n 0, 1) := by decide +kernel
theorem d_Sh_find_510 : decode prog_3_method_2_code 510 = .ok (.aload_n 1, 1) := by decide +kernel
theorem d_Sh_find_511 : decode prog_3_method_2_code 511 = .ok (.aload_n 2, 1) := by decide +kernel
theorem d_Sh_find_512 : decode prog_3_method_2_code 512 = .ok (.aload 4, 2) := by decide +kernel
theorem d_Sh_find_514 : decode prog_3_method_2_code 514 = .ok (.invokestatic 58, 3) := by decide +kernel
theorem d_Sh_find_517 : decode prog_3_method_2_code 517 = .ok (.ifCond .eq 7, 3) := by decide +kernel
theorem d_Sh_find_520 : decode prog_3_method_2_code 520 = .ok (.iconst 1, 1) := by decide +kernel
theorem d_Sh_find_521 : decode prog_3_method_2_code 521 = .ok (.goto 4, 3) := by decide +kernel
theorem d_Sh_find_524 : decode prog_3_method_2_code 524 = .ok (.iconst 0, 1) := by decide +kernel
theorem d_Sh_find_525 : decode prog_3_method_2_code 525 = .ok (.ireturn, 1) := by decide +kernel
theorem d_Sh_find_526 : decode prog_3_method_2_code 526 = .ok (.aload_n 3, 1) := by decide +kernel
theorem d_Sh_find_527 : decode prog_3_method_2_code 527 = .ok (.getfield 15, 3) := by decide +kernel
theorem d_Sh_find_530 : decode prog_3_method_2_code 530 = .ok (.iconst 1, 1) := by decide +kernel
theorem d_Sh_find_531 : decode prog_3_method_2_code 531 = .ok (.if_icmp .ne 51, 3) := by decide +kernel
theorem d_Sh_find_534 : decode prog_3_method_2_code 534 = .ok (.aload_n 3, 1) := by decide +kernel
theorem d_Sh_find_535 : decode prog_3_method_2_code 535 = .ok (.getfield 33, 3) := by decide +kernel
theorem d_Sh_find_538 : decode prog_3_method_2_code 538 = .ok (.iconst 1, 1) := by decide +kernel
theorem d_Sh_find_539 : decode prog_3_method_2_code 539 = .ok (.if_icmp .ne 43, 3) := by decide +kernel
theorem d_Sh_find_542 : decode prog_3_method_2_code 542 = .ok (.aload_n 3, 1) := by decide +kernel
theorem d_Sh_find_543 : decode prog_3_method_2_code 543 = .ok (.getfield 30, 3) := by decide +kernel
theorem d_Sh_find_546 : decode prog_3_method_2_code 546 = .ok (.iconst 1, 1) := by decide +kernel
theorem d_Sh_find_547 : decode prog_3_method_2_code 547 = .ok (.if_icmp .ne 35, 3) := by decide +kernel
theorem d_Sh_find_550 : decode prog_3_method_2_code 550 = .ok (.aload_n 1, 1) := by decide +kernel
theorem d_Sh_find_551 : decode prog_3_method_2_code 551 = .ok (.aload_n 2, 1) := by decide +kernel
theorem d_Sh_find_552 : decode prog_3_method_2_code 552 = .ok (.invokestatic 62, 3) := by decide +kernel
theorem d_Sh_find_555 : decode prog_3_method_2_code 555 = .ok (.ifCond .eq 27, 3) := by decide +kernel
theorem d_Sh_find_558 : decode prog_3_method_2_code 558 = .ok (.aload 4, 2) := by decide +kernel
theorem d_Sh_find_560 : decode prog_3_method_2_code 560 = .ok (.aload_n 1, 1) := by decide +kernel
theorem d_Sh_find_561 : decode prog_3_method_2_code 561 = .ok (.getfield 15, 3) := by decide +kernel
theorem d_Sh_find_564 : decode prog_3_method_2_code 564 = .ok (.aload_n 1, 1) := by decide +kernel
theorem d_Sh_find_565 : decode prog_3_method_2_code 565 = .ok (.getfield 33, 3) := by decide +kernel
theorem d_Sh_find_568 : decode prog_3_method_2_code 568 = .ok (.aload_n 1, 1) := by decide +kernel
theorem d_Sh_find_569 : decode prog_3_method_2_code 569 = .ok (.getfield 30, 3) := by decide +kernel
theorem d_Sh_find_572 : decode prog_3_method_2_code 572 = .ok (.invokevirtual 36, 3) := by decide +kernel
theorem d_Sh_find_575 : decode prog_3_method_2_code 575 = .ok (.ifCond .eq 7, 3) := by decide +kernel
theorem d_Sh_find_578 : decode prog_3_method_2_code 578 = .ok (.iconst 1, 1) := by decide +kernel
theorem d_Sh_find_579 : decode prog_3_method_2_code 579 = .ok (.goto 4, 3) := by decide +kernel
theorem d_Sh_find_582 : decode prog_3_method_2_code 582 = .ok (.iconst 0, 1) := by decide +kernel
theorem d_Sh_find_583 : decode prog_3_method_2_code 583 = .ok (.ireturn, 1) := by decide +kernel
theorem d_Sh_find_584 : decode prog_3_method_2_code 584 = .ok (.iconst 0, 1) := by decide +kernel
theorem d_Sh_find_585 : decode prog_3_method_2_code 585 = .ok (.ireturn, 1) := by decide +kernel
theorem d_Sh_fit_0 : decode prog_3_method_5_code 0 = .ok (.aload_n 0, 1) := by decide +kernel
theorem d_Sh_fit_1 : decode prog_3_method_5_code 1 = .ok (.getfield 33, 3) := by decide +kernel
theorem d_Sh_fit_4 : decode prog_3_method_5_code 4 = .ok (.aload_n 1, 1) := by decide +kernel
theorem d_Sh_fit_5 : decode prog_3_method_5_code 5 = .ok (.getfield 33, 3) := by decide +kernel
theorem d_Sh_fit_8 : decode prog_3_method_5_code 8 = .ok (.invokestatic 65, 3) := by decide +kernel
theorem d_Sh_fit_11 : decode prog_3_method_5_code 11 = .ok (.ifCond .eq 51, 3) := by decide +kernel
theorem d_Sh_fit_14 : decode prog_3_method_5_code 14 = .ok (.aload_n 0, 1) := by decide +kernel
theorem d_Sh_fit_15 : decode prog_3_method_5_code 15 = .ok (.getfield 30, 3) := by decide +kernel
theorem d_Sh_fit_18 : decode prog_3_method_5_code 18 = .ok (.aload_n 1, 1) := by decide +kernel
theorem d_Sh_fit_19 : decode prog_3_method_5_code 19 = .ok (.getfield 30, 3) := by decide +kernel
theorem d_Sh_fit_22 : decode prog_3_method_5_code 22 = .ok (.invokestatic 65, 3) := by decide +kernel
theorem d_Sh_fit_25 : decode prog_3_method_5_code 25 = .ok (.ifCond .eq 37, 3) := by decide +kernel
theorem d_Sh_fit_28 : decode prog_3_method_5_code 28 = .ok (.aload_n 3, 1) := by decide +kernel
theorem d_Sh_fit_29 : decode prog_3_method_5_code 29 = .ok (.iload_n 2, 1) := by decide +kernel
theorem d_Sh_fit_30 : decode prog_3_method_5_code 30 = .ok (.aload_n 0, 1) := by decide +kernel
theorem d_Sh_fit_31 : decode prog_3_method_5_code 31 = .ok (.getfield 33, 3) := by decide +kernel
theorem d_Sh_fit_34 : decode prog_3_method_5_code 34 = .ok (.aload_n 1, 1) := by decide +kernel
theorem d_Sh_fit_35 : decode prog_3_method_5_code 35 = .ok (.getfield 33, 3) := by decide +kernel
theorem d_Sh_fit_38 : decode prog_3_method_5_code 38 = .ok (.invokestatic 69, 3) := by decide +kernel
theorem d_Sh_fit_41 : decode prog_3_method_5_code 41 = .ok (.aload_n 0, 1) := by decide +kernel
theorem d_Sh_fit_42 : decode prog_3_method_5_code 42 = .ok (.getfield 30, 3) := by decide +kernel
theorem d_Sh_fit_45 : decode prog_3_method_5_code 45 = .ok (.aload_n 1, 1) := by decide +kernel
theorem d_Sh_fit_46 : decode prog_3_method_5_code 46 = .ok (.getfield 30, 3) := by decide +kernel
theorem d_Sh_fit_49 : decode prog_3_method_5_code 49 = .ok (.invokestatic 69, 3) := by decide +kernel
theorem d_Sh_fit_52 : decode prog_3_method_5_code 52 = .ok (.invokevirtual 36, 3) := by decide +kernel
theorem d_Sh_fit_55 : decode prog_3_method_5_code 55 = .ok (.ifCond .eq 7, 3) := by decide +kernel
theorem d_Sh_fit_58 : decode prog_3_method_5_code 58 = .ok (.iconst 1, 1) := by decide +kernel
theorem d_Sh_fit_59 : decode prog_3_method_5_code 59 = .ok (.goto 4, 3) := by decide +kernel
theorem d_Sh_fit_62 : decode prog_3_method_5_code 62 = .ok (.iconst 0, 1) := by decide +kernel
theorem d_Sh_fit_63 : decode prog_3_method_5_code 63 = .ok (.ireturn, 1) := by decide +kernel
theorem d_Sh_sidesFit_0 : decode prog_3_method_6_code 0 = .ok (.iload_n 0, 1) := by decide +kernel
theorem d_Sh_sidesFit_1 : decode prog_3_method_6_code 1 = .ok (.iload_n 1, 1) := by decide +kernel
theorem d_Sh_sidesFit_2 : decode prog_3_method_6_code 2 = .ok (.if_icmp .eq 13, 3) := by decide +kernel
theorem d_Sh_sidesFit_5 : decode prog_3_method_6_code 5 = .ok (.iload_n 0, 1) := by decide +kernel
theorem d_Sh_sidesFit_6 : decode prog_3_method_6_code 6 = .ok (.iconst 1, 1) := by decide +kernel
theorem d_Sh_sidesFit_7 : decode prog_3_method_6_code 7 = .ok (.if_icmp .eq 8, 3) := by decide +kernel
theorem d_Sh_sidesFit_10 : decode prog_3_method_6_code 10 = .ok (.iload_n 1, 1) := by decide +kernel
theorem d_Sh_sidesFit_11 : decode prog_3_method_6_code 11 = .ok (.iconst 1, 1) := by decide +kernel
theorem d_Sh_sidesFit_12 : decode prog_3_method_6_code 12 = .ok (.if_icmp .ne 7, 3) := by decide +kernel
theorem d_Sh_sidesFit_15 : decode prog_3_method_6_code 15 = .ok (.iconst 1, 1) := by decide +kernel
theorem d_Sh_sidesFit_16 : decode prog_3_method_6_code 16 = .ok (.goto 4, 3) := by decide +kernel
theorem d_Sh_sidesFit_19 : decode prog_3_method_6_code 19 = .ok (.iconst 0, 1) := by decide +kernel
theorem d_Sh_sidesFit_20 : decode prog_3_method_6_code 20 = .ok (.ireturn, 1) := by decide +kernel
theorem d_Sh_areFloats_0 : decode prog_3_method_3_code 0 = .ok (.aload_n 0, 1) := by decide +kernel
theorem d_Sh_areFloats_1 : decode prog_3_method_3_code 1 = .ok (.getfield 15, 3) := by decide +kernel
theorem d_Sh_areFloats_4 : decode prog_3_method_3_code 4 = .ok (.ifCond .ne 14, 3) := by decide +kernel
theorem d_Sh_areFloats_7 : decode prog_3_method_3_code 7 = .ok (.aload_n 1, 1) := by decide +kernel
theorem d_Sh_areFloats_8 : decode prog_3_method_3_code 8 = .ok (.getfield 15, 3) := by decide +kernel
theorem d_Sh_areFloats_11 : decode prog_3_method_3_code 11 = .ok (.ifCond .ne 7, 3) := by decide +kernel
theorem d_Sh_areFloats_14 : decode prog_3_method_3_code 14 = .ok (.iconst 1, 1) := by decide +kernel
theorem d_Sh_areFloats_15 : decode prog_3_method_3_code 15 = .ok (.goto 4, 3) := by decide +kernel
theorem d_Sh_areFloats_18 : decode prog_3_method_3_code 18 = .ok (.iconst 0, 1) := by decide +kernel
theorem d_Sh_areFloats_19 : decode prog_3_method_3_code 19 = .ok (.ireturn, 1) := by decide +kernel
theorem d_Sh_findGathered_0 : decode prog_3_method_7_code 0 = .ok (.iload_n 0, 1) := by decide +kernel
theorem d_Sh_findGathered_1 : decode prog_3_method_7_code 1 = .ok (.ifCond .ne 17, 3) := by decide +kernel
theorem d_Sh_findGathered_4 : decode prog_3_method_7_code 4 = .ok (.aload_n 2, 1) := by decide +kernel
theorem d_Sh_findGathered_5 : decode prog_3_method_7_code 5 = .ok (.aload_n 1, 1) := by decide +kernel
theorem d_Sh_findGathered_6 : decode prog_3_method_7_code 6 = .ok (.getfield 15, 3) := by decide +kernel
theorem d_Sh_findGathered_9 : decode prog_3_method_7_code 9 = .ok (.iconst 1, 1) := by decide +kernel
theorem d_Sh_findGathered_10 : decode prog_3_method_7_code 10 = .ok (.aload_n 1, 1) := by decide +kernel
theorem d_Sh_findGathered_11 : decode prog_3_method_7_code 11 = .ok (.getfield 30, 3) := by decide +kernel
theorem d_Sh_findGathered_14 : decode prog_3_method_7_code 14 = .ok (.invokevirtual 36, 3) := by decide +kernel
theorem d_Sh_findGathered_17 : decode prog_3_method_7_code 17 = .ok (.ireturn, 1) := by decide +kernel
theorem d_Sh_findGathered_18 : decode prog_3_method_7_code 18 = .ok (.iload_n 0, 1) := by decide +kernel
theorem d_Sh_findGathered_19 : decode prog_3_method_7_code 19 = .ok (.iconst 1, 1) := by decide +kernel
theorem d_Sh_findGathered_20 : decode prog_3_method_7_code 20 = .ok (.if_icmp .ne 23, 3) := by decide +kernel
theorem d_Sh_findGathered_23 : decode prog_3_method_7_code 23 = .ok (.aload_n 2, 1) := by decide +kernel
theorem d_Sh_findGathered_24 : decode prog_3_method_7_code 24 = .ok (.aload_n 1, 1) := by decide +kernel
theorem d_Sh_findGathered_25 : decode prog_3_method_7_code 25 = .ok (.getfield 15, 3) := by decide +kernel
theorem d_Sh_findGathered_28 : decode prog_3_method_7_code 28 = .ok (.aload_n 1, 1) := by decide +kernel
theorem d_Sh_findGathered_29 : decode prog_3_method_7_code 29 = .ok (.getfield 33, 3) := by decide +kernel
theorem d_Sh_findGathered_32 : decode prog_3_method_7_code 32 = .ok (.iconst 1, 1) := by decide +kernel
theorem d_Sh_findGathered_33 : decode prog_3_method_7_code 33 = .ok (.invokevirtual 36, 3) := by decide +kernel
theorem d_Sh_findGathered_36 : decode prog_3_method_7_code 36 = .ok (.ifCond .eq 7, 3) := by decide +kernel
theorem d_Sh_findGathered_39 : decode prog_3_method_7_code 39 = .ok (.iconst 1, 1) := by decide +kernel
theorem d_Sh_findGathered_40 : decode prog_3_method_7_code 40 = .ok (.goto 4, 3) := by decide +kernel
theorem d_Sh_findGathered_43 : decode prog_3_method_7_code 43 = .ok (.iconst 0, 1) := by decide +kernel
theorem d_Sh_findGathered_44 : decode prog_3_method_7_code 44 = .ok (.ireturn, 1) := by decide +kernel
theorem d_Sh_findJoined_0 : decode prog_3_method_8_code 0 = .ok (.iload_n 0, 1) := by decide +kernel
theorem d_Sh_findJoined_1 : decode prog_3_method_8_code 1 = .ok (.ifCond .ne 44, 3) := by decide +kernel
theorem d_Sh_findJoined_4 : decode prog_3_method_8_code 4 = .ok (.aload_n 1, 1) := by decide +kernel
theorem d_Sh_findJoined_5 : decode prog_3_method_8_code 5 = .ok (.getfield 30, 3) := by decide +kernel
theorem d_Sh_findJoined_8 : decode prog_3_method_8_code 8 = .ok (.aload_n 2, 1) := by decide +kernel
theorem d_Sh_findJoined_9 : decode prog_3_method_8_code 9 = .ok (.getfield 30, 3) := by decide +kernel
theorem d_Sh_findJoined_12 : decode prog_3_method_8_code 12 = .ok (.if_icmp .ne 31, 3) := by decide +kernel
theorem d_Sh_findJoined_15 : decode prog_3_method_8_code 15 = .ok (.aload_n 3, 1) := by decide +kernel
theorem d_Sh_findJoined_16 : decode prog_3_method_8_code 16 = .ok (.aload_n 1, 1) := by decide +kernel
theorem d_Sh_findJoined_17 : decode prog_3_method_8_code 17 = .ok (.getfield 15, 3) := by decide +kernel
theorem d_Sh_findJoined_20 : decode prog_3_method_8_code 20 = .ok (.aload_n 1, 1) := by decide +kernel
theorem d_Sh_findJoined_21 : decode prog_3_method_8_code 21 = .ok (.getfield 33, 3) := by decide +kernel
theorem d_Sh_findJoined_24 : decode prog_3_method_8_code 24 = .ok (.aload_n 2, 1) := by decide +kernel
theorem d_Sh_findJoined_25 : decode prog_3_method_8_code 25 = .ok (.getfield 33, 3) := by decide +kernel
theorem d_Sh_findJoined_28 : decode prog_3_method_8_code 28 = .ok (.iadd, 1) := by decide +kernel
theorem d_Sh_findJoined_29 : decode prog_3_method_8_code 29 = .ok (.aload_n 1, 1) := by decide +kernel
theorem d_Sh_findJoined_30 : decode prog_3_method_8_code 30 = .ok (.getfield 30, 3) := by decide +kernel
theorem d_Sh_findJoined_33 : decode prog_3_method_8_code 33 = .ok (.invokevirtual 36, 3) := by decide +kernel
theorem d_Sh_findJoined_36 : decode prog_3_method_8_code 36 = .ok (.ifCond .eq 7, 3) := by decide +kernel
theorem d_Sh_findJoined_39 : decode prog_3_method_8_code 39 = .ok (.iconst 1, 1) := by decide +kernel
theorem d_Sh_findJoined_40 : decode prog_3_method_8_code 40 = .ok (.goto 4, 3) := by decide +kernel
theorem d_Sh_findJoined_43 : decode prog_3_method_8_code 43 = .ok (.iconst 0, 1) := by decide +kernel
theorem d_Sh_findJoined_44 : decode prog_3_method_8_code 44 = .ok (.ireturn, 1) := by decide +kernel
theorem d_Sh_findJoined_45 : decode prog_3_method_8_code 45 = .ok (.iload_n 0, 1) := by decide +kernel
theorem d_Sh_findJoined_46 : decode prog_3_method_8_code 46 = .ok (.iconst 1, 1) := by decide +kernel
theorem d_Sh_findJoined_47 : decode prog_3_method_8_code 47 = .ok (.if_icmp .ne 42, 3) := by decide +kernel
theorem d_Sh_findJoined_50 : decode prog_3_method_8_code 50 = .ok (.aload_n 1, 1) := by decide +kernel
theorem d_Sh_findJoined_51 : decode prog_3_method_8_code 51 = .ok (.getfield 33, 3) := by decide +kernel
theorem d_Sh_findJoined_54 : decode prog_3_method_8_code 54 = .ok (.aload_n 2, 1) := by decide +kernel
theorem d_Sh_findJoined_55 : decode prog_3_method_8_code 55 = .ok (.getfield 33, 3) := by decide +kernel
theorem d_Sh_findJoined_58 : decode prog_3_method_8_code 58 = .ok (.if_icmp .ne 31, 3) := by decide +kernel
theorem d_Sh_findJoined_61 : decode prog_3_method_8_code 61 = .ok (.aload_n 3, 1) := by decide +kernel
theorem d_Sh_findJoined_62 : decode prog_3_method_8_code 62 = .ok (.aload_n 1, 1) := by decide +kernel
theorem d_Sh_findJoined_63 : decode prog_3_method_8_code 63 = .ok (.getfield 15, 3) := by decide +kernel
theorem d_Sh_findJoined_66 : decode prog_3_method_8_code 66 = .ok (.aload_n 1, 1) := by decide +kernel
theorem d_Sh_findJoined_67 : decode prog_3_method_8_code 67 = .ok (.getfield 33, 3) := by decide +kernel
theorem d_Sh_findJoined_70 : decode prog_3_method_8_code 70 = .ok (.aload_n 1, 1) := by decide +kernel
theorem d_Sh_findJoined_71 : decode prog_3_method_8_code 71 = .ok (.getfield 30, 3) := by decide +kernel
theorem d_Sh_findJoined_74 : decode prog_3_method_8_code 74 = .ok (.aload_n 2, 1) := by decide +kernel
theorem d_Sh_findJoined_75 : decode prog_3_method_8_code 75 = .ok (.getfield 30, 3) := by decide +kernel
theorem d_Sh_findJoined_78 : decode prog_3_method_8_code 78 = .ok (.iadd, 1) := by decide +kernel
theorem d_Sh_findJoined_79 : decode prog_3_method_8_code 79 = .ok (.invokevirtual 36, 3) := by decide +kernel
theorem d_Sh_findJoined_82 : decode prog_3_method_8_code 82 = .ok (.ifCond .eq 7, 3) := by decide +kernel
theorem d_Sh_findJoined_85 : decode prog_3_method_8_code 85 = .ok (.iconst 1, 1) := by decide +kernel
theorem d_Sh_findJoined_86 : decode prog_3_method_8_code 86 = .ok (.goto 4, 3) := by decide +kernel
theorem d_Sh_findJoined_89 : decode prog_3_method_8_code 89 = .ok (.iconst 0, 1) := by decide +kernel
theorem d_Sh_findJoined_90 : decode prog_3_method_8_code 90 = .ok (.ireturn, 1) := by decide +kernel
theorem d_Sh_findSlid_0 : decode prog_3_method_9_code 0 = .ok (.aload_n 0, 1) := by decide +kernel
theorem d_Sh_findSlid_1 : decode prog_3_method_9_code 1 = .ok (.getfield 40, 3) := by decide +kernel
theorem d_Sh_findSlid_4 : decode prog_3_method_9_code 4 = .ok (.iconst 1, 1) := by decide +kernel
theorem d_Sh_findSlid_5 : decode prog_3_method_9_code 5 = .ok (.if_icmp .lt 26, 3) := by decide +kernel
theorem d_Sh_findSlid_8 : decode prog_3_method_9_code 8 = .ok (.aload_n 0, 1) := by decide +kernel
theorem d_Sh_findSlid_9 : decode prog_3_method_9_code 9 = .ok (.getfield 40, 3) := by decide +kernel
theorem d_Sh_findSlid_12 : decode prog_3_method_9_code 12 = .ok (.iconst 2, 1) := by decide +kernel
theorem d_Sh_findSlid_13 : decode prog_3_method_9_code 13 = .ok (.if_icmp .gt 18, 3) := by decide +kernel
theorem d_Sh_findSlid_16 : decode prog_3_method_9_code 16 = .ok (.aload_n 0, 1) := by decide +kernel
theorem d_Sh_findSlid_17 : decode prog_3_method_9_code 17 = .ok (.getfield 55, 3) := by decide +kernel
theorem d_Sh_findSlid_20 : decode prog_3_method_9_code 20 = .ok (.ifCond .lt 11, 3) := by decide +kernel
theorem d_Sh_findSlid_23 : decode prog_3_method_9_code 23 = .ok (.aload_n 0, 1) := by decide +kernel
theorem d_Sh_findSlid_24 : decode prog_3_method_9_code 24 = .ok (.getfield 55, 3) := by decide +kernel
theorem d_Sh_findSlid_27 : decode prog_3_method_9_code 27 = .ok (.iconst 2, 1) := by decide +kernel
theorem d_Sh_findSlid_28 : decode prog_3_method_9_code 28 = .ok (.if_icmp .le 5, 3) := by decide +kernel
theorem d_Sh_findSlid_31 : decode prog_3_method_9_code 31 = .ok (.iconst 0, 1) := by decide +kernel
theorem d_Sh_findSlid_32 : decode prog_3_method_9_code 32 = .ok (.ireturn, 1) := by decide +kernel
theorem d_Sh_findSlid_33 : decode prog_3_method_9_code 33 = .ok (.aload_n 1, 1) := by decide +kernel
theorem d_Sh_findSlid_34 : decode prog_3_method_9_code 34 = .ok (.getfield 30, 3) := by decide +kernel
theorem d_Sh_findSlid_37 : decode prog_3_method_9_code 37 = .ok (.iconst 2, 1) := by decide +kernel
theorem d_Sh_findSlid_38 : decode prog_3_method_9_code 38 = .ok (.aload_n 0, 1) := by decide +kernel
theorem d_Sh_findSlid_39 : decode prog_3_method_9_code 39 = .ok (.getfield 55, 3) := by decide +kernel
theorem d_Sh_findSlid_42 : decode prog_3_method_9_code 42 = .ok (.imul, 1) := by decide +kernel
theorem d_Sh_findSlid_43 : decode prog_3_method_9_code 43 = .ok (.iadd, 1) := by decide +kernel
theorem d_Sh_findSlid_44 : decode prog_3_method_9_code 44 = .ok (.aload_n 2, 1) := by decide +kernel
theorem d_Sh_findSlid_45 : decode prog_3_method_9_code 45 = .ok (.getfield 30, 3) := by decide +kernel
theorem d_Sh_findSlid_48 : decode prog_3_method_9_code 48 = .ok (.isub, 1) := by decide +kernel
theorem d_Sh_findSlid_49 : decode prog_3_method_9_code 49 = .ok (.istore 4, 2) := by decide +kernel
theorem d_Sh_findSlid_51 : decode prog_3_method_9_code 51 = .ok (.iload 4, 2) := by decide +kernel
theorem d_Sh_findSlid_53 : decode prog_3_method_9_code 53 = .ok (.ifCond .lt 28, 3) := by decide +kernel
theorem d_Sh_findSlid_56 : decode prog_3_method_9_code 56 = .ok (.aload_n 3, 1) := by decide +kernel
theorem d_Sh_findSlid_57 : decode prog_3_method_9_code 57 = .ok (.iconst 0, 1) := by decide +kernel
theorem d_Sh_findSlid_58 : decode prog_3_method_9_code 58 = .ok (.aload_n 1, 1) := by decide +kernel
theorem d_Sh_findSlid_59 : decode prog_3_method_9_code 59 = .ok (.getfield 33, 3) := by decide +kernel
theorem d_Sh_findSlid_62 : decode prog_3_method_9_code 62 = .ok (.iload 4, 2) := by decide +kernel
theorem d_Sh_findSlid_64 : decode prog_3_method_9_code 64 = .ok (.aload_n 0, 1) := by decide +kernel
theorem d_Sh_findSlid_65 : decode prog_3_method_9_code 65 = .ok (.getfield 40, 3) := by decide +kernel
theorem d_Sh_findSlid_68 : decode prog_3_method_9_code 68 = .ok (.idiv, 1) := by decide +kernel
theorem d_Sh_findSlid_69 : decode prog_3_method_9_code 69 = .ok (.iconst 1, 1) := by decide +kernel
theorem d_Sh_findSlid_70 : decode prog_3_method_9_code 70 = .ok (.iadd, 1) := by decide +kernel
theorem d_Sh_findSlid_71 : decode prog_3_method_9_code 71 = .ok (.invokevirtual 36, 3) := by decide +kernel
theorem d_Sh_findSlid_74 : decode prog_3_method_9_code 74 = .ok (.ifCond .eq 7, 3) := by decide +kernel
theorem d_Sh_findSlid_77 : decode prog_3_method_9_code 77 = .ok (.iconst 1, 1) := by decide +kernel
theorem d_Sh_findSlid_78 : decode prog_3_method_9_code 78 = .ok (.goto 4, 3) := by decide +kernel
theorem d_Sh_findSlid_81 : decode prog_3_method_9_code 81 = .ok (.iconst 0, 1) := by decide +kernel
theorem d_Sh_findSlid_82 : decode prog_3_method_9_code 82 = .ok (.ireturn, 1) := by decide +kernel
theorem d_Sh_areAlike_0 : decode prog_3_method_4_code 0 = .ok (.aload_n 0, 1) := by decide +kernel
theorem d_Sh_areAlike_1 : decode prog_3_method_4_code 1 = .ok (.getfield 15, 3) := by decide +kernel
theorem d_Sh_areAlike_4 : decode prog_3_method_4_code 4 = .ok (.aload_n 1, 1) := by decide +kernel
theorem d_Sh_areAlike_5 : decode prog_3_method_4_code 5 = .ok (.getfield 15, 3) := by decide +kernel
theorem d_Sh_areAlike_8 : decode prog_3_method_4_code 8 = .ok (.if_icmp .ne 29, 3) := by decide +kernel
theorem d_Sh_areAlike_11 : decode prog_3_method_4_code 11 = .ok (.aload_n 0, 1) := by decide +kernel
theorem d_Sh_areAlike_12 : decode prog_3_method_4_code 12 = .ok (.getfield 33, 3) := by decide +kernel
theorem d_Sh_areAlike_15 : decode prog_3_method_4_code 15 = .ok (.aload_n 1, 1) := by decide +kernel
theorem d_Sh_areAlike_16 : decode prog_3_method_4_code 16 = .ok (.getfield 33, 3) := by decide +kernel
theorem d_Sh_areAlike_19 : decode prog_3_method_4_code 19 = .ok (.if_icmp .ne 18, 3) := by decide +kernel
theorem d_Sh_areAlike_22 : decode prog_3_method_4_code 22 = .ok (.aload_n 0, 1) := by decide +kernel
theorem d_Sh_areAlike_23 : decode prog_3_method_4_code 23 = .ok (.getfield 30, 3) := by decide +kernel
theorem d_Sh_areAlike_26 : decode prog_3_method_4_code 26 = .ok (.aload_n 1, 1) := by decide +kernel
theorem d_Sh_areAlike_27 : decode prog_3_method_4_code 27 = .ok (.getfield 30, 3) := by decide +kernel
theorem d_Sh_areAlike_30 : decode prog_3_method_4_code 30 = .ok (.if_icmp .ne 7, 3) := by decide +kernel
theorem d_Sh_areAlike_33 : decode prog_3_method_4_code 33 = .ok (.iconst 1, 1) := by decide +kernel
theorem d_Sh_areAlike_34 : decode prog_3_method_4_code 34 = .ok (.goto 4, 3) := by decide +kernel
theorem d_Sh_areAlike_37 : decode prog_3_method_4_code 37 = .ok (.iconst 0, 1) := by decide +kernel
theorem d_Sh_areAlike_38 : decode prog_3_method_4_code 38 = .ok (.ireturn, 1) := by decide +kernel
theorem d_Ma_max_0 : decode prog_14_method_65_code 0 = .ok (.iload_n 0, 1) := by decide +kernel
theorem d_Ma_max_1 : decode prog_14_method_65_code 1 = .ok (.iload_n 1, 1) := by decide +kernel
theorem d_Ma_max_2 : decode prog_14_method_65_code 2 = .ok (.if_icmp .lt 7, 3) := by decide +kernel
theorem d_Ma_max_5 : decode prog_14_method_65_code 5 = .ok (.iload_n 0, 1) := by decide +kernel
theorem d_Ma_max_6 : decode prog_14_method_65_code 6 = .ok (.goto 4, 3) := by decide +kernel
theorem d_Ma_max_9 : decode prog_14_method_65_code 9 = .ok (.iload_n 1, 1) := by decide +kernel
theorem d_Ma_max_10 : decode prog_14_method_65_code 10 = .ok (.ireturn, 1) := by decide +kernel
theorem d_Wk_workOut_0 : decode prog_6_method_2_code 0 = .ok (.aload_n 0, 1) := by decide +kernel
theorem d_Wk_workOut_1 : decode prog_6_method_2_code 1 = .ok (.getfield 9, 3) := by decide +kernel
theorem d_Wk_workOut_4 : decode prog_6_method_2_code 4 = .ok (.tableswitch 264 3 18 #[80, 96, 254, 106, 254, 264, 115, 126, 139, 152, 161, 208, 88, 221, 232, 254], 80) := by decide +kernel
theorem d_Wk_workOut_84 : decode prog_6_method_2_code 84 = .ok (.aload_n 1, 1) := by decide +kernel
theorem d_Wk_workOut_85 : decode prog_6_method_2_code 85 = .ok (.aload_n 2, 1) := by decide +kernel
theorem d_Wk_workOut_86 : decode prog_6_method_2_code 86 = .ok (.aload 4, 2) := by decide +kernel
theorem d_Wk_workOut_88 : decode prog_6_method_2_code 88 = .ok (.invokestatic 15, 3) := by decide +kernel
theorem d_Wk_workOut_91 : decode prog_6_method_2_code 91 = .ok (.ireturn, 1) := by decide +kernel
theorem d_Wk_workOut_92 : decode prog_6_method_2_code 92 = .ok (.aload_n 1, 1) := by decide +kernel
theorem d_Wk_workOut_93 : decode prog_6_method_2_code 93 = .ok (.aload_n 2, 1) := by decide +kernel
theorem d_Wk_workOut_94 : decode prog_6_method_2_code 94 = .ok (.aload 4, 2) := by decide +kernel
theorem d_Wk_workOut_96 : decode prog_6_method_2_code 96 = .ok (.invokestatic 21, 3) := by decide +kernel
theorem d_Wk_workOut_99 : decode prog_6_method_2_code 99 = .ok (.ireturn, 1) := by decide +kernel
theorem d_Wk_workOut_100 : decode prog_6_method_2_code 100 = .ok (.aload_n 1, 1) := by decide +kernel
theorem d_Wk_workOut_101 : decode prog_6_method_2_code 101 = .ok (.aload_n 2, 1) := by decide +kernel
theorem d_Wk_workOut_102 : decode prog_6_method_2_code 102 = .ok (.aload 4, 2) := by decide +kernel
theorem d_Wk_workOut_104 : decode prog_6_method_2_code 104 = .ok (.invokestatic 24, 3) := by decide +kernel
theorem d_Wk_workOut_107 : decode prog_6_method_2_code 107 = .ok (.goto 172, 3) := by decide +kernel
theorem d_Wk_workOut_110 : decode prog_6_method_2_code 110 = .ok (.aload_n 1, 1) := by decide +kernel
theorem d_Wk_workOut_111 : decode prog_6_method_2_code 111 = .ok (.aload 4, 2) := by decide +kernel
theorem d_Wk_workOut_113 : decode prog_6_method_2_code 113 = .ok (.invokestatic 28, 3) := by decide +kernel
theorem d_Wk_workOut_116 : decode prog_6_method_2_code 116 = .ok (.goto 163, 3) := by decide +kernel
theorem d_Wk_workOut_119 : decode prog_6_method_2_code 119 = .ok (.aload_n 1, 1) := by decide +kernel
theorem d_Wk_workOut_120 : decode prog_6_method_2_code 120 = .ok (.aload_n 2, 1) := by decide +kernel
theorem d_Wk_workOut_121 : decode prog_6_method_2_code 121 = .ok (.aload_n 3, 1) := by decide +kernel
theorem d_Wk_workOut_122 : decode prog_6_method_2_code 122 = .ok (.aload 4, 2) := by decide +kernel
theorem d_Wk_workOut_124 : decode prog_6_method_2_code 124 = .ok (.invokestatic 32, 3) := by decide +kernel
theorem d_Wk_workOut_127 : decode prog_6_method_2_code 127 = .ok (.goto 152, 3) := by decide +kernel
theorem d_Wk_workOut_130 : decode prog_6_method_2_code 130 = .ok (.aload_n 0, 1) := by decide +kernel
theorem d_Wk_workOut_131 : decode prog_6_method_2_code 131 = .ok (.getfield 36, 3) := by decide +kernel
theorem d_Wk_workOut_134 : decode prog_6_method_2_code 134 = .ok (.aload_n 1, 1) := by decide +kernel
theorem d_Wk_workOut_135 : decode prog_6_method_2_code 135 = .ok (.aload 4, 2) := by decide +kernel
theorem d_Wk_workOut_137 : decode prog_6_method_2_code 137 = .ok (.invokestatic 39, 3) := by decide +kernel
theorem d_Wk_workOut_140 : decode prog_6_method_2_code 140 = .ok (.goto 139, 3) := by decide +kernel
theorem d_Wk_workOut_143 : decode prog_6_method_2_code 143 = .ok (.aload_n 0, 1) := by decide +kernel
theorem d_Wk_workOut_144 : decode prog_6_method_2_code 144 = .ok (.getfield 36, 3) := by decide +kernel
theorem d_Wk_workOut_147 : decode prog_6_method_2_code 147 = .ok (.aload_n 1, 1) := by decide +kernel
theorem d_Wk_workOut_148 : decode prog_6_method_2_code 148 = .ok (.aload 4, 2) := by decide +kernel
theorem d_Wk_workOut_150 : decode prog_6_method_2_code 150 = .ok (.invokestatic 43, 3) := by decide +kernel
theorem d_Wk_workOut_153 : decode prog_6_method_2_code 153 = .ok (.goto 126, 3) := by decide +kernel
theorem d_Wk_workOut_156 : decode prog_6_method_2_code 156 = .ok (.aload_n 1, 1) := by decide +kernel
theorem d_Wk_workOut_157 : decode prog_6_method_2_code 157 = .ok (.aload 4, 2) := by decide +kernel
theorem d_Wk_workOut_159 : decode prog_6_method_2_code 159 = .ok (.invokestatic 46, 3) := by decide +kernel
theorem d_Wk_workOut_162 : decode prog_6_method_2_code 162 = .ok (.goto 117, 3) := by decide +kernel
theorem d_Wk_workOut_165 : decode prog_6_method_2_code 165 = .ok (.aload_n 1, 1) := by decide +kernel
theorem d_Wk_workOut_166 : decode prog_6_method_2_code 166 = .ok (.aload 4, 2) := by decide +kernel
theorem d_Wk_workOut_168 : decode prog_6_method_2_code 168 = .ok (.iconst 0, 1) := by decide +kernel
theorem d_Wk_workOut_169 : decode prog_6_method_2_code 169 = .ok (.iconst 0, 1) := by decide +kernel
theorem d_Wk_workOut_170 : decode prog_6_method_2_code 170 = .ok (.invokestatic 49, 3) := by decide +kernel
theorem d_Wk_workOut_173 : decode prog_6_method_2_code 173 = .ok (.aload_n 2, 1) := by decide +kernel
theorem d_Wk_workOut_174 : decode prog_6_method_2_code 174 = .ok (.aload 4, 2) := by decide +kernel
theorem d_Wk_workOut_176 : decode prog_6_method_2_code 176 = .ok (.aload_n 0, 1) := by decide +kernel
theorem d_Wk_workOut_177 : decode prog_6_method_2_code 177 = .ok (.getfield 36, 3) := by decide +kernel
theorem d_Wk_workOut_180 : decode prog_6_method_2_code 180 = .ok (.ifCond .ne 10, 3) := by decide +kernel
theorem d_Wk_workOut_183 : decode prog_6_method_2_code 183 = .ok (.aload_n 1, 1) := by decide +kernel
theorem d_Wk_workOut_184 : decode prog_6_method_2_code 184 = .ok (.getfield 53, 3) := by decide +kernel
theorem d_Wk_workOut_187 : decode prog_6_method_2_code 187 = .ok (.goto 4, 3) := by decide +kernel
theorem d_Wk_workOut_190 : decode prog_6_method_2_code 190 = .ok (.iconst 0, 1) := by decide +kernel
theorem d_Wk_workOut_191 : decode prog_6_method_2_code 191 = .ok (.aload_n 0, 1) := by decide +kernel
theorem d_Wk_workOut_192 : decode prog_6_method_2_code 192 = .ok (.getfield 36, 3) := by decide +kernel
theorem d_Wk_workOut_195 : decode prog_6_method_2_code 195 = .ok (.ifCond .ne 7, 3) := by decide +kernel
theorem d_Wk_workOut_198 : decode prog_6_method_2_code 198 = .ok (.iconst 0, 1) := by decide +kernel
theorem d_Wk_workOut_199 : decode prog_6_method_2_code 199 = .ok (.goto 7, 3) := by decide +kernel
theorem d_Wk_workOut_202 : decode prog_6_method_2_code 202 = .ok (.aload_n 1, 1) := by decide +kernel
theorem d_Wk_workOut_203 : decode prog_6_method_2_code 203 = .ok (.getfield 58, 3) := by decide +kernel
theorem d_Wk_workOut_206 : decode prog_6_method_2_code 206 = .ok (.invokestatic 49, 3) := by decide +kernel
theorem d_Wk_workOut_209 : decode prog_6_method_2_code 209 = .ok (.goto 70, 3) := by decide +kernel
theorem d_Wk_workOut_212 : decode prog_6_method_2_code 212 = .ok (.aload_n 0, 1) := by decide +kernel
theorem d_Wk_workOut_213 : decode prog_6_method_2_code 213 = .ok (.getfield 36, 3) := by decide +kernel
theorem d_Wk_workOut_216 : decode prog_6_method_2_code 216 = .ok (.aload_n 1, 1) := by decide +kernel
theorem d_Wk_workOut_217 : decode prog_6_method_2_code 217 = .ok (.aload 4, 2) := by decide +kernel
theorem d_Wk_workOut_219 : decode prog_6_method_2_code 219 = .ok (.invokestatic 61, 3) := by decide +kernel
theorem d_Wk_workOut_222 : decode prog_6_method_2_code 222 = .ok (.goto 57, 3) := by decide +kernel
theorem d_Wk_workOut_225 : decode prog_6_method_2_code 225 = .ok (.aload_n 0, 1) := by decide +kernel
theorem d_Wk_workOut_226 : decode prog_6_method_2_code 226 = .ok (.aload_n 1, 1) := by decide +kernel
theorem d_Wk_workOut_227 : decode prog_6_method_2_code 227 = .ok (.aload_n 2, 1) := by decide +kernel
theorem d_Wk_workOut_228 : decode prog_6_method_2_code 228 = .ok (.aload 4, 2) := by decide +kernel
theorem d_Wk_workOut_230 : decode prog_6_method_2_code 230 = .ok (.invokestatic 64, 3) := by decide +kernel
theorem d_Wk_workOut_233 : decode prog_6_method_2_code 233 = .ok (.goto 46, 3) := by decide +kernel
theorem d_Wk_workOut_236 : decode prog_6_method_2_code 236 = .ok (.aload_n 3, 1) := by decide +kernel
theorem d_Wk_workOut_237 : decode prog_6_method_2_code 237 = .ok (.invokevirtual 68, 3) := by decide +kernel
theorem d_Wk_workOut_240 : decode prog_6_method_2_code 240 = .ok (.ifCond .eq 7, 3) := by decide +kernel
theorem d_Wk_workOut_243 : decode prog_6_method_2_code 243 = .ok (.aload_n 2, 1) := by decide +kernel
theorem d_Wk_workOut_244 : decode prog_6_method_2_code 244 = .ok (.goto 4, 3) := by decide +kernel
theorem d_Wk_workOut_247 : decode prog_6_method_2_code 247 = .ok (.aload_n 1, 1) := by decide +kernel
theorem d_Wk_workOut_248 : decode prog_6_method_2_code 248 = .ok (.aload 4, 2) := by decide +kernel
theorem d_Wk_workOut_250 : decode prog_6_method_2_code 250 = .ok (.iconst 0, 1) := by decide +kernel
theorem d_Wk_workOut_251 : decode prog_6_method_2_code 251 = .ok (.iconst 0, 1) := by decide +kernel
theorem d_Wk_workOut_252 : decode prog_6_method_2_code 252 = .ok (.invokestatic 49, 3) := by decide +kernel
theorem d_Wk_workOut_255 : decode prog_6_method_2_code 255 = .ok (.goto 24, 3) := by decide +kernel
theorem d_Wk_workOut_258 : decode prog_6_method_2_code 258 = .ok (.aload_n 0, 1) := by decide +kernel
theorem d_Wk_workOut_259 : decode prog_6_method_2_code 259 = .ok (.aload_n 1, 1) := by decide +kernel
theorem d_Wk_workOut_260 : decode prog_6_method_2_code 260 = .ok (.aload 4, 2) := by decide +kernel
theorem d_Wk_workOut_262 : decode prog_6_method_2_code 262 = .ok (.invokestatic 72, 3) := by decide +kernel
theorem d_Wk_workOut_265 : decode prog_6_method_2_code 265 = .ok (.goto 14, 3) := by decide +kernel
theorem d_Wk_workOut_268 : decode prog_6_method_2_code 268 = .ok (.aload_n 0, 1) := by decide +kernel
theorem d_Wk_workOut_269 : decode prog_6_method_2_code 269 = .ok (.getfield 9, 3) := by decide +kernel
theorem d_Wk_workOut_272 : decode prog_6_method_2_code 272 = .ok (.aload_n 1, 1) := by decide +kernel
theorem d_Wk_workOut_273 : decode prog_6_method_2_code 273 = .ok (.aload_n 2, 1) := by decide +kernel
theorem d_Wk_workOut_274 : decode prog_6_method_2_code 274 = .ok (.aload 4, 2) := by decide +kernel
theorem d_Wk_workOut_276 : decode prog_6_method_2_code 276 = .ok (.invokestatic 76, 3) := by decide +kernel
theorem d_Wk_workOut_279 : decode prog_6_method_2_code 279 = .ok (.iconst 0, 1) := by decide +kernel
theorem d_Wk_workOut_280 : decode prog_6_method_2_code 280 = .ok (.ireturn, 1) := by decide +kernel
theorem d_Wk_divide_0 : decode prog_6_method_6_code 0 = .ok (.iconst 0, 1) := by decide +kernel
theorem d_Wk_divide_1 : decode prog_6_method_6_code 1 = .ok (.istore_n 3, 1) := by decide +kernel
theorem d_Wk_divide_2 : decode prog_6_method_6_code 2 = .ok (.iload_n 3, 1) := by decide +kernel
theorem d_Wk_divide_3 : decode prog_6_method_6_code 3 = .ok (.aload_n 2, 1) := by decide +kernel
theorem d_Wk_divide_4 : decode prog_6_method_6_code 4 = .ok (.getfield 53, 3) := by decide +kernel
theorem d_Wk_divide_7 : decode prog_6_method_6_code 7 = .ok (.if_icmp .ge 87, 3) := by decide +kernel
theorem d_Wk_divide_10 : decode prog_6_method_6_code 10 = .ok (.iconst 0, 1) := by decide +kernel
theorem d_Wk_divide_11 : decode prog_6_method_6_code 11 = .ok (.istore 4, 2) := by decide +kernel
theorem d_Wk_divide_13 : decode prog_6_method_6_code 13 = .ok (.iload 4, 2) := by decide +kernel
theorem d_Wk_divide_15 : decode prog_6_method_6_code 15 = .ok (.aload_n 2, 1) := by decide +kernel
theorem d_Wk_divide_16 : decode prog_6_method_6_code 16 = .ok (.getfield 58, 3) := by decide +kernel
theorem d_Wk_divide_19 : decode prog_6_method_6_code 19 = .ok (.if_icmp .ge 69, 3) := by decide +kernel
theorem d_Wk_divide_22 : decode prog_6_method_6_code 22 = .ok (.aload_n 0, 1) := by decide +kernel
theorem d_Wk_divide_23 : decode prog_6_method_6_code 23 = .ok (.iload_n 3, 1) := by decide +kernel
theorem d_Wk_divide_24 : decode prog_6_method_6_code 24 = .ok (.iload 4, 2) := by decide +kernel
theorem d_Wk_divide_26 : decode prog_6_method_6_code 26 = .ok (.invokevirtual 80, 3) := by decide +kernel
theorem d_Wk_divide_29 : decode prog_6_method_6_code 29 = .ok (.dstore 5, 2) := by decide +kernel
theorem d_Wk_divide_31 : decode prog_6_method_6_code 31 = .ok (.aload_n 1, 1) := by decide +kernel
theorem d_Wk_divide_32 : decode prog_6_method_6_code 32 = .ok (.iload_n 3, 1) := by decide +kernel
theorem d_Wk_divide_33 : decode prog_6_method_6_code 33 = .ok (.iload 4, 2) := by decide +kernel
theorem d_Wk_divide_35 : decode prog_6_method_6_code 35 = .ok (.invokevirtual 80, 3) := by decide +kernel
theorem d_Wk_divide_38 : decode prog_6_method_6_code 38 = .ok (.dstore 7, 2) := by decide +kernel
theorem d_Wk_divide_40 : decode prog_6_method_6_code 40 = .ok (.dload 7, 2) := by decide +kernel
theorem d_Wk_divide_42 : decode prog_6_method_6_code 42 = .ok (.dconst 0, 1) := by decide +kernel
theorem d_Wk_divide_43 : decode prog_6_method_6_code 43 = .ok (.dcmp .l, 1) := by decide +kernel
theorem d_Wk_divide_44 : decode prog_6_method_6_code 44 = .ok (.ifCond .ne 5, 3) := by decide +kernel
theorem d_Wk_divide_47 : decode prog_6_method_6_code 47 = .ok (.iconst 1, 1) := by decide +kernel
theorem d_Wk_divide_48 : decode prog_6_method_6_code 48 = .ok (.ireturn, 1) := by decide +kernel
theorem d_Wk_divide_49 : decode prog_6_method_6_code 49 = .ok (.aload_n 2, 1) := by decide +kernel
theorem d_Wk_divide_50 : decode prog_6_method_6_code 50 = .ok (.iload_n 3, 1) := by decide +kernel
theorem d_Wk_divide_51 : decode prog_6_method_6_code 51 = .ok (.iload 4, 2) := by decide +kernel
theorem d_Wk_divide_53 : decode prog_6_method_6_code 53 = .ok (.aload_n 0, 1) := by decide +kernel
theorem d_Wk_divide_54 : decode prog_6_method_6_code 54 = .ok (.getfield 84, 3) := by decide +kernel
theorem d_Wk_divide_57 : decode prog_6_method_6_code 57 = .ok (.iconst 1, 1) := by decide +kernel
theorem d_Wk_divide_58 : decode prog_6_method_6_code 58 = .ok (.if_icmp .ne 16, 3) := by decide +kernel
theorem d_Wk_divide_61 : decode prog_6_method_6_code 61 = .ok (.dload 5, 2) := by decide +kernel
theorem d_Wk_divide_63 : decode prog_6_method_6_code 63 = .ok (.d2i, 1) := by decide +kernel
theorem d_Wk_divide_64 : decode prog_6_method_6_code 64 = .ok (.dload 7, 2) := by decide +kernel
theorem d_Wk_divide_66 : decode prog_6_method_6_code 66 = .ok (.d2i, 1) := by decide +kernel
theorem d_Wk_divide_67 : decode prog_6_method_6_code 67 = .ok (.invokestatic 99, 3) := by decide +kernel
theorem d_Wk_divide_70 : decode prog_6_method_6_code 70 = .ok (.i2d, 1) := by decide +kernel
theorem d_Wk_divide_71 : decode prog_6_method_6_code 71 = .ok (.goto 8, 3) := by decide +kernel
theorem d_Wk_divide_74 : decode prog_6_method_6_code 74 = .ok (.dload 5, 2) := by decide +kernel
theorem d_Wk_divide_76 : decode prog_6_method_6_code 76 = .ok (.dload 7, 2) := by decide +kernel
theorem d_Wk_divide_78 : decode prog_6_method_6_code 78 = .ok (.ddiv, 1) := by decide +kernel
theorem d_Wk_divide_79 : decode prog_6_method_6_code 79 = .ok (.invokevirtual 95, 3) := by decide +kernel
theorem d_Wk_divide_82 : decode prog_6_method_6_code 82 = .ok (.iinc 4 1, 3) := by decide +kernel
theorem d_Wk_divide_85 : decode prog_6_method_6_code 85 = .ok (.goto (-72), 3) := by decide +kernel
