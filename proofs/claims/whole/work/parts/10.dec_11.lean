theorem d_Lw_law_222 : decode code 222 = .ok (.ldc2_w 65, 3) := by decide +kernel
theorem d_Lw_law_225 : decode code 225 = .ok (.dmul, 1) := by decide +kernel
theorem d_Lw_law_226 : decode code 226 = .ok (.invokestatic 67, 3) := by decide +kernel
theorem d_Lw_law_229 : decode code 229 = .ok (.istore 6, 2) := by decide +kernel
theorem d_Lw_law_231 : decode code 231 = .ok (.aload_n 2, 1) := by decide +kernel
theorem d_Lw_law_232 : decode code 232 = .ok (.aload_n 0, 1) := by decide +kernel
theorem d_Lw_law_233 : decode code 233 = .ok (.iload 5, 2) := by decide +kernel
theorem d_Lw_law_235 : decode code 235 = .ok (.iconst 1, 1) := by decide +kernel
theorem d_Lw_law_236 : decode code 236 = .ok (.iadd, 1) := by decide +kernel
theorem d_Lw_law_237 : decode code 237 = .ok (.iaload, 1) := by decide +kernel
theorem d_Lw_law_238 : decode code 238 = .ok (.aload_n 0, 1) := by decide +kernel
theorem d_Lw_law_239 : decode code 239 = .ok (.iload 5, 2) := by decide +kernel
theorem d_Lw_law_241 : decode code 241 = .ok (.iconst 2, 1) := by decide +kernel
theorem d_Lw_law_242 : decode code 242 = .ok (.iadd, 1) := by decide +kernel
theorem d_Lw_law_243 : decode code 243 = .ok (.iaload, 1) := by decide +kernel
theorem d_Lw_law_244 : decode code 244 = .ok (.aload_n 0, 1) := by decide +kernel
theorem d_Lw_law_245 : decode code 245 = .ok (.iload 5, 2) := by decide +kernel
theorem d_Lw_law_247 : decode code 247 = .ok (.iconst 3, 1) := by decide +kernel
theorem d_Lw_law_248 : decode code 248 = .ok (.iadd, 1) := by decide +kernel
theorem d_Lw_law_249 : decode code 249 = .ok (.iaload, 1) := by decide +kernel
theorem d_Lw_law_250 : decode code 250 = .ok (.aload_n 0, 1) := by decide +kernel
theorem d_Lw_law_251 : decode code 251 = .ok (.iload 5, 2) := by decide +kernel
theorem d_Lw_law_253 : decode code 253 = .ok (.iconst 4, 1) := by decide +kernel
theorem d_Lw_law_254 : decode code 254 = .ok (.iadd, 1) := by decide +kernel
theorem d_Lw_law_255 : decode code 255 = .ok (.iaload, 1) := by decide +kernel
theorem d_Lw_law_256 : decode code 256 = .ok (.i2d, 1) := by decide +kernel
theorem d_Lw_law_257 : decode code 257 = .ok (.ldc2_w 65, 3) := by decide +kernel
theorem d_Lw_law_260 : decode code 260 = .ok (.dmul, 1) := by decide +kernel
theorem d_Lw_law_261 : decode code 261 = .ok (.invokevirtual 70, 3) := by decide +kernel
theorem d_Lw_law_264 : decode code 264 = .ok (.aload_n 2, 1) := by decide +kernel
theorem d_Lw_law_265 : decode code 265 = .ok (.invokevirtual 62, 3) := by decide +kernel
theorem d_Lw_law_268 : decode code 268 = .ok (.iload 6, 2) := by decide +kernel
theorem d_Lw_law_270 : decode code 270 = .ok (.if_icmp .eq 5, 3) := by decide +kernel
theorem d_Lw_law_273 : decode code 273 = .ok (.iconst 0, 1) := by decide +kernel
theorem d_Lw_law_274 : decode code 274 = .ok (.ireturn, 1) := by decide +kernel
theorem d_Lw_law_275 : decode code 275 = .ok (.goto 453, 3) := by decide +kernel
theorem d_Lw_law_278 : decode code 278 = .ok (.aload_n 1, 1) := by decide +kernel
theorem d_Lw_law_279 : decode code 279 = .ok (.aload_n 0, 1) := by decide +kernel
theorem d_Lw_law_280 : decode code 280 = .ok (.iload 5, 2) := by decide +kernel
theorem d_Lw_law_282 : decode code 282 = .ok (.iconst 1, 1) := by decide +kernel
theorem d_Lw_law_283 : decode code 283 = .ok (.iadd, 1) := by decide +kernel
theorem d_Lw_law_284 : decode code 284 = .ok (.iaload, 1) := by decide +kernel
theorem d_Lw_law_285 : decode code 285 = .ok (.aload_n 0, 1) := by decide +kernel
theorem d_Lw_law_286 : decode code 286 = .ok (.iload 5, 2) := by decide +kernel
theorem d_Lw_law_288 : decode code 288 = .ok (.iconst 2, 1) := by decide +kernel
theorem d_Lw_law_289 : decode code 289 = .ok (.iadd, 1) := by decide +kernel
theorem d_Lw_law_290 : decode code 290 = .ok (.iaload, 1) := by decide +kernel
theorem d_Lw_law_291 : decode code 291 = .ok (.aload_n 0, 1) := by decide +kernel
theorem d_Lw_law_292 : decode code 292 = .ok (.iload 5, 2) := by decide +kernel
theorem d_Lw_law_294 : decode code 294 = .ok (.iconst 3, 1) := by decide +kernel
theorem d_Lw_law_295 : decode code 295 = .ok (.iadd, 1) := by decide +kernel
theorem d_Lw_law_296 : decode code 296 = .ok (.iaload, 1) := by decide +kernel
theorem d_Lw_law_297 : decode code 297 = .ok (.aload_n 0, 1) := by decide +kernel
theorem d_Lw_law_298 : decode code 298 = .ok (.iload 5, 2) := by decide +kernel
theorem d_Lw_law_300 : decode code 300 = .ok (.iconst 4, 1) := by decide +kernel
theorem d_Lw_law_301 : decode code 301 = .ok (.iadd, 1) := by decide +kernel
theorem d_Lw_law_302 : decode code 302 = .ok (.iaload, 1) := by decide +kernel
theorem d_Lw_law_303 : decode code 303 = .ok (.aload_n 0, 1) := by decide +kernel
theorem d_Lw_law_304 : decode code 304 = .ok (.iload 5, 2) := by decide +kernel
theorem d_Lw_law_306 : decode code 306 = .ok (.iconst 5, 1) := by decide +kernel
theorem d_Lw_law_307 : decode code 307 = .ok (.iadd, 1) := by decide +kernel
theorem d_Lw_law_308 : decode code 308 = .ok (.iaload, 1) := by decide +kernel
theorem d_Lw_law_309 : decode code 309 = .ok (.aload_n 0, 1) := by decide +kernel
theorem d_Lw_law_310 : decode code 310 = .ok (.iload 5, 2) := by decide +kernel
theorem d_Lw_law_312 : decode code 312 = .ok (.bipush 6, 2) := by decide +kernel
theorem d_Lw_law_314 : decode code 314 = .ok (.iadd, 1) := by decide +kernel
theorem d_Lw_law_315 : decode code 315 = .ok (.iaload, 1) := by decide +kernel
theorem d_Lw_law_316 : decode code 316 = .ok (.aload_n 0, 1) := by decide +kernel
theorem d_Lw_law_317 : decode code 317 = .ok (.iload 5, 2) := by decide +kernel
theorem d_Lw_law_319 : decode code 319 = .ok (.bipush 7, 2) := by decide +kernel
theorem d_Lw_law_321 : decode code 321 = .ok (.iadd, 1) := by decide +kernel
theorem d_Lw_law_322 : decode code 322 = .ok (.iaload, 1) := by decide +kernel
theorem d_Lw_law_323 : decode code 323 = .ok (.aload_n 3, 1) := by decide +kernel
theorem d_Lw_law_324 : decode code 324 = .ok (.invokestatic 71, 3) := by decide +kernel
theorem d_Lw_law_327 : decode code 327 = .ok (.istore 6, 2) := by decide +kernel
theorem d_Lw_law_329 : decode code 329 = .ok (.aload_n 2, 1) := by decide +kernel
theorem d_Lw_law_330 : decode code 330 = .ok (.aload_n 0, 1) := by decide +kernel
theorem d_Lw_law_331 : decode code 331 = .ok (.iload 5, 2) := by decide +kernel
theorem d_Lw_law_333 : decode code 333 = .ok (.iconst 1, 1) := by decide +kernel
theorem d_Lw_law_334 : decode code 334 = .ok (.iadd, 1) := by decide +kernel
theorem d_Lw_law_335 : decode code 335 = .ok (.iaload, 1) := by decide +kernel
theorem d_Lw_law_336 : decode code 336 = .ok (.aload_n 0, 1) := by decide +kernel
theorem d_Lw_law_337 : decode code 337 = .ok (.iload 5, 2) := by decide +kernel
theorem d_Lw_law_339 : decode code 339 = .ok (.iconst 2, 1) := by decide +kernel
theorem d_Lw_law_340 : decode code 340 = .ok (.iadd, 1) := by decide +kernel
theorem d_Lw_law_341 : decode code 341 = .ok (.iaload, 1) := by decide +kernel
theorem d_Lw_law_342 : decode code 342 = .ok (.aload_n 0, 1) := by decide +kernel
theorem d_Lw_law_343 : decode code 343 = .ok (.iload 5, 2) := by decide +kernel
theorem d_Lw_law_345 : decode code 345 = .ok (.iconst 3, 1) := by decide +kernel
theorem d_Lw_law_346 : decode code 346 = .ok (.iadd, 1) := by decide +kernel
theorem d_Lw_law_347 : decode code 347 = .ok (.iaload, 1) := by decide +kernel
theorem d_Lw_law_348 : decode code 348 = .ok (.aload_n 0, 1) := by decide +kernel
theorem d_Lw_law_349 : decode code 349 = .ok (.iload 5, 2) := by decide +kernel
theorem d_Lw_law_351 : decode code 351 = .ok (.iconst 4, 1) := by decide +kernel
theorem d_Lw_law_352 : decode code 352 = .ok (.iadd, 1) := by decide +kernel
theorem d_Lw_law_353 : decode code 353 = .ok (.iaload, 1) := by decide +kernel
theorem d_Lw_law_354 : decode code 354 = .ok (.aload_n 0, 1) := by decide +kernel
theorem d_Lw_law_355 : decode code 355 = .ok (.iload 5, 2) := by decide +kernel
theorem d_Lw_law_357 : decode code 357 = .ok (.iconst 5, 1) := by decide +kernel
theorem d_Lw_law_358 : decode code 358 = .ok (.iadd, 1) := by decide +kernel
theorem d_Lw_law_359 : decode code 359 = .ok (.iaload, 1) := by decide +kernel
theorem d_Lw_law_360 : decode code 360 = .ok (.aload_n 0, 1) := by decide +kernel
theorem d_Lw_law_361 : decode code 361 = .ok (.iload 5, 2) := by decide +kernel
theorem d_Lw_law_363 : decode code 363 = .ok (.bipush 6, 2) := by decide +kernel
theorem d_Lw_law_365 : decode code 365 = .ok (.iadd, 1) := by decide +kernel
theorem d_Lw_law_366 : decode code 366 = .ok (.iaload, 1) := by decide +kernel
theorem d_Lw_law_367 : decode code 367 = .ok (.aload_n 0, 1) := by decide +kernel
theorem d_Lw_law_368 : decode code 368 = .ok (.iload 5, 2) := by decide +kernel
theorem d_Lw_law_370 : decode code 370 = .ok (.bipush 7, 2) := by decide +kernel
theorem d_Lw_law_372 : decode code 372 = .ok (.iadd, 1) := by decide +kernel
theorem d_Lw_law_373 : decode code 373 = .ok (.iaload, 1) := by decide +kernel
theorem d_Lw_law_374 : decode code 374 = .ok (.invokevirtual 74, 3) := by decide +kernel
theorem d_Lw_law_377 : decode code 377 = .ok (.istore 7, 2) := by decide +kernel
theorem d_Lw_law_379 : decode code 379 = .ok (.aload_n 2, 1) := by decide +kernel
theorem d_Lw_law_380 : decode code 380 = .ok (.invokevirtual 62, 3) := by decide +kernel
theorem d_Lw_law_383 : decode code 383 = .ok (.iload 6, 2) := by decide +kernel
theorem d_Lw_law_385 : decode code 385 = .ok (.if_icmp .eq 5, 3) := by decide +kernel
theorem d_Lw_law_388 : decode code 388 = .ok (.iconst 0, 1) := by decide +kernel
theorem d_Lw_law_389 : decode code 389 = .ok (.ireturn, 1) := by decide +kernel
theorem d_Lw_law_390 : decode code 390 = .ok (.iload 6, 2) := by decide +kernel
theorem d_Lw_law_392 : decode code 392 = .ok (.ifCond .ne 15, 3) := by decide +kernel
theorem d_Lw_law_395 : decode code 395 = .ok (.aload_n 3, 1) := by decide +kernel
theorem d_Lw_law_396 : decode code 396 = .ok (.iconst 0, 1) := by decide +kernel
theorem d_Lw_law_397 : decode code 397 = .ok (.laload, 1) := by decide +kernel
theorem d_Lw_law_398 : decode code 398 = .ok (.iload 7, 2) := by decide +kernel
theorem d_Lw_law_400 : decode code 400 = .ok (.i2l, 1) := by decide +kernel
theorem d_Lw_law_401 : decode code 401 = .ok (.lcmp, 1) := by decide +kernel
theorem d_Lw_law_402 : decode code 402 = .ok (.ifCond .eq 5, 3) := by decide +kernel
theorem d_Lw_law_405 : decode code 405 = .ok (.iconst 0, 1) := by decide +kernel
theorem d_Lw_law_406 : decode code 406 = .ok (.ireturn, 1) := by decide +kernel
theorem d_Lw_law_407 : decode code 407 = .ok (.goto 321, 3) := by decide +kernel
theorem d_Lw_law_410 : decode code 410 = .ok (.aload_n 1, 1) := by decide +kernel
theorem d_Lw_law_411 : decode code 411 = .ok (.invokestatic 75, 3) := by decide +kernel
theorem d_Lw_law_414 : decode code 414 = .ok (.istore 6, 2) := by decide +kernel
theorem d_Lw_law_416 : decode code 416 = .ok (.aload_n 2, 1) := by decide +kernel
theorem d_Lw_law_417 : decode code 417 = .ok (.invokevirtual 78, 3) := by decide +kernel
theorem d_Lw_law_420 : decode code 420 = .ok (.aload_n 2, 1) := by decide +kernel
theorem d_Lw_law_421 : decode code 421 = .ok (.invokevirtual 62, 3) := by decide +kernel
theorem d_Lw_law_424 : decode code 424 = .ok (.iload 6, 2) := by decide +kernel
theorem d_Lw_law_426 : decode code 426 = .ok (.if_icmp .eq 5, 3) := by decide +kernel
theorem d_Lw_law_429 : decode code 429 = .ok (.iconst 0, 1) := by decide +kernel
theorem d_Lw_law_430 : decode code 430 = .ok (.ireturn, 1) := by decide +kernel
theorem d_Lw_law_431 : decode code 431 = .ok (.goto 297, 3) := by decide +kernel
theorem d_Lw_law_434 : decode code 434 = .ok (.aload_n 1, 1) := by decide +kernel
theorem d_Lw_law_435 : decode code 435 = .ok (.aload_n 3, 1) := by decide +kernel
theorem d_Lw_law_436 : decode code 436 = .ok (.invokestatic 79, 3) := by decide +kernel
theorem d_Lw_law_439 : decode code 439 = .ok (.istore 6, 2) := by decide +kernel
theorem d_Lw_law_441 : decode code 441 = .ok (.aload_n 2, 1) := by decide +kernel
theorem d_Lw_law_442 : decode code 442 = .ok (.invokevirtual 82, 3) := by decide +kernel
theorem d_Lw_law_445 : decode code 445 = .ok (.istore 7, 2) := by decide +kernel
theorem d_Lw_law_447 : decode code 447 = .ok (.aload_n 2, 1) := by decide +kernel
theorem d_Lw_law_448 : decode code 448 = .ok (.invokevirtual 62, 3) := by decide +kernel
theorem d_Lw_law_451 : decode code 451 = .ok (.iload 6, 2) := by decide +kernel
theorem d_Lw_law_453 : decode code 453 = .ok (.if_icmp .eq 5, 3) := by decide +kernel
theorem d_Lw_law_456 : decode code 456 = .ok (.iconst 0, 1) := by decide +kernel
theorem d_Lw_law_457 : decode code 457 = .ok (.ireturn, 1) := by decide +kernel
theorem d_Lw_law_458 : decode code 458 = .ok (.iload 6, 2) := by decide +kernel
theorem d_Lw_law_460 : decode code 460 = .ok (.ifCond .ne 15, 3) := by decide +kernel
theorem d_Lw_law_463 : decode code 463 = .ok (.aload_n 3, 1) := by decide +kernel
theorem d_Lw_law_464 : decode code 464 = .ok (.iconst 0, 1) := by decide +kernel
theorem d_Lw_law_465 : decode code 465 = .ok (.laload, 1) := by decide +kernel
theorem d_Lw_law_466 : decode code 466 = .ok (.iload 7, 2) := by decide +kernel
theorem d_Lw_law_468 : decode code 468 = .ok (.i2l, 1) := by decide +kernel
theorem d_Lw_law_469 : decode code 469 = .ok (.lcmp, 1) := by decide +kernel
theorem d_Lw_law_470 : decode code 470 = .ok (.ifCond .eq 5, 3) := by decide +kernel
theorem d_Lw_law_473 : decode code 473 = .ok (.iconst 0, 1) := by decide +kernel
theorem d_Lw_law_474 : decode code 474 = .ok (.ireturn, 1) := by decide +kernel
theorem d_Lw_law_475 : decode code 475 = .ok (.goto 253, 3) := by decide +kernel
theorem d_Lw_law_478 : decode code 478 = .ok (.aload_n 1, 1) := by decide +kernel
theorem d_Lw_law_479 : decode code 479 = .ok (.aload_n 0, 1) := by decide +kernel
theorem d_Lw_law_480 : decode code 480 = .ok (.iload 5, 2) := by decide +kernel
theorem d_Lw_law_482 : decode code 482 = .ok (.iconst 1, 1) := by decide +kernel
theorem d_Lw_law_483 : decode code 483 = .ok (.iadd, 1) := by decide +kernel
theorem d_Lw_law_484 : decode code 484 = .ok (.iaload, 1) := by decide +kernel
theorem d_Lw_law_485 : decode code 485 = .ok (.aload_n 3, 1) := by decide +kernel
theorem d_Lw_law_486 : decode code 486 = .ok (.invokestatic 83, 3) := by decide +kernel
theorem d_Lw_law_489 : decode code 489 = .ok (.istore 6, 2) := by decide +kernel
theorem d_Lw_law_491 : decode code 491 = .ok (.aload_n 2, 1) := by decide +kernel
theorem d_Lw_law_492 : decode code 492 = .ok (.aload_n 0, 1) := by decide +kernel
theorem d_Lw_law_493 : decode code 493 = .ok (.iload 5, 2) := by decide +kernel
theorem d_Lw_law_495 : decode code 495 = .ok (.iconst 1, 1) := by decide +kernel
theorem d_Lw_law_496 : decode code 496 = .ok (.iadd, 1) := by decide +kernel
theorem d_Lw_law_497 : decode code 497 = .ok (.iaload, 1) := by decide +kernel
theorem d_Lw_law_498 : decode code 498 = .ok (.invokevirtual 86, 3) := by decide +kernel
theorem d_Lw_law_501 : decode code 501 = .ok (.istore 7, 2) := by decide +kernel
theorem d_Lw_law_503 : decode code 503 = .ok (.aload_n 2, 1) := by decide +kernel
theorem d_Lw_law_504 : decode code 504 = .ok (.invokevirtual 62, 3) := by decide +kernel
theorem d_Lw_law_507 : decode code 507 = .ok (.iload 6, 2) := by decide +kernel
theorem d_Lw_law_509 : decode code 509 = .ok (.if_icmp .eq 5, 3) := by decide +kernel
theorem d_Lw_law_512 : decode code 512 = .ok (.iconst 0, 1) := by decide +kernel
theorem d_Lw_law_513 : decode code 513 = .ok (.ireturn, 1) := by decide +kernel
theorem d_Lw_law_514 : decode code 514 = .ok (.iload 6, 2) := by decide +kernel
theorem d_Lw_law_516 : decode code 516 = .ok (.ifCond .ne 15, 3) := by decide +kernel
theorem d_Lw_law_519 : decode code 519 = .ok (.aload_n 3, 1) := by decide +kernel
theorem d_Lw_law_520 : decode code 520 = .ok (.iconst 0, 1) := by decide +kernel
theorem d_Lw_law_521 : decode code 521 = .ok (.laload, 1) := by decide +kernel
theorem d_Lw_law_522 : decode code 522 = .ok (.iload 7, 2) := by decide +kernel
theorem d_Lw_law_524 : decode code 524 = .ok (.i2l, 1) := by decide +kernel
theorem d_Lw_law_525 : decode code 525 = .ok (.lcmp, 1) := by decide +kernel
theorem d_Lw_law_526 : decode code 526 = .ok (.ifCond .eq 5, 3) := by decide +kernel
theorem d_Lw_law_529 : decode code 529 = .ok (.iconst 0, 1) := by decide +kernel
theorem d_Lw_law_530 : decode code 530 = .ok (.ireturn, 1) := by decide +kernel
theorem d_Lw_law_531 : decode code 531 = .ok (.goto 197, 3) := by decide +kernel
theorem d_Lw_law_534 : decode code 534 = .ok (.aload_n 1, 1) := by decide +kernel
theorem d_Lw_law_535 : decode code 535 = .ok (.aload_n 0, 1) := by decide +kernel
theorem d_Lw_law_536 : decode code 536 = .ok (.iload 5, 2) := by decide +kernel
theorem d_Lw_law_538 : decode code 538 = .ok (.iconst 1, 1) := by decide +kernel
theorem d_Lw_law_539 : decode code 539 = .ok (.iadd, 1) := by decide +kernel
theorem d_Lw_law_540 : decode code 540 = .ok (.iaload, 1) := by decide +kernel
theorem d_Lw_law_541 : decode code 541 = .ok (.aload_n 0, 1) := by decide +kernel
theorem d_Lw_law_542 : decode code 542 = .ok (.iload 5, 2) := by decide +kernel
theorem d_Lw_law_544 : decode code 544 = .ok (.iconst 2, 1) := by decide +kernel
theorem d_Lw_law_545 : decode code 545 = .ok (.iadd, 1) := by decide +kernel
theorem d_Lw_law_546 : decode code 546 = .ok (.iaload, 1) := by decide +kernel
theorem d_Lw_law_547 : decode code 547 = .ok (.aload_n 0, 1) := by decide +kernel
theorem d_Lw_law_548 : decode code 548 = .ok (.iload 5, 2) := by decide +kernel
theorem d_Lw_law_550 : decode code 550 = .ok (.iconst 3, 1) := by decide +kernel
theorem d_Lw_law_551 : decode code 551 = .ok (.iadd, 1) := by decide +kernel
theorem d_Lw_law_552 : decode code 552 = .ok (.iaload, 1) := by decide +kernel
theorem d_Lw_law_553 : decode code 553 = .ok (.aload 4, 2) := by decide +kernel
theorem d_Lw_law_555 : decode code 555 = .ok (.invokestatic 87, 3) := by decide +kernel
theorem d_Lw_law_558 : decode code 558 = .ok (.istore 6, 2) := by decide +kernel
theorem d_Lw_law_560 : decode code 560 = .ok (.aload_n 2, 1) := by decide +kernel
theorem d_Lw_law_561 : decode code 561 = .ok (.aload_n 0, 1) := by decide +kernel
theorem d_Lw_law_562 : decode code 562 = .ok (.iload 5, 2) := by decide +kernel
theorem d_Lw_law_564 : decode code 564 = .ok (.iconst 1, 1) := by decide +kernel
theorem d_Lw_law_565 : decode code 565 = .ok (.iadd, 1) := by decide +kernel
theorem d_Lw_law_566 : decode code 566 = .ok (.iaload, 1) := by decide +kernel
theorem d_Lw_law_567 : decode code 567 = .ok (.aload_n 0, 1) := by decide +kernel
theorem d_Lw_law_568 : decode code 568 = .ok (.iload 5, 2) := by decide +kernel
theorem d_Lw_law_570 : decode code 570 = .ok (.iconst 2, 1) := by decide +kernel
theorem d_Lw_law_571 : decode code 571 = .ok (.iadd, 1) := by decide +kernel
theorem d_Lw_law_572 : decode code 572 = .ok (.iaload, 1) := by decide +kernel
theorem d_Lw_law_573 : decode code 573 = .ok (.aload_n 0, 1) := by decide +kernel
theorem d_Lw_law_574 : decode code 574 = .ok (.iload 5, 2) := by decide +kernel
theorem d_Lw_law_576 : decode code 576 = .ok (.iconst 3, 1) := by decide +kernel
theorem d_Lw_law_577 : decode code 577 = .ok (.iadd, 1) := by decide +kernel
theorem d_Lw_law_578 : decode code 578 = .ok (.iaload, 1) := by decide +kernel
theorem d_Lw_law_579 : decode code 579 = .ok (.invokevirtual 90, 3) := by decide +kernel
theorem d_Lw_law_582 : decode code 582 = .ok (.dstore 7, 2) := by decide +kernel
theorem d_Lw_law_584 : decode code 584 = .ok (.aload_n 2, 1) := by decide +kernel
theorem d_Lw_law_585 : decode code 585 = .ok (.invokevirtual 62, 3) := by decide +kernel
theorem d_Lw_law_588 : decode code 588 = .ok (.iload 6, 2) := by decide +kernel
theorem d_Lw_law_590 : decode code 590 = .ok (.if_icmp .eq 5, 3) := by decide +kernel
theorem d_Lw_law_593 : decode code 593 = .ok (.iconst 0, 1) := by decide +kernel
theorem d_Lw_law_594 : decode code 594 = .ok (.ireturn, 1) := by decide +kernel
theorem d_Lw_law_595 : decode code 595 = .ok (.iload 6, 2) := by decide +kernel
theorem d_Lw_law_597 : decode code 597 = .ok (.ifCond .ne 35, 3) := by decide +kernel
theorem d_Lw_law_600 : decode code 600 = .ok (.aload 4, 2) := by decide +kernel
theorem d_Lw_law_602 : decode code 602 = .ok (.iconst 0, 1) := by decide +kernel
theorem d_Lw_law_603 : decode code 603 = .ok (.daload, 1) := by decide +kernel
theorem d_Lw_law_604 : decode code 604 = .ok (.dload 7, 2) := by decide +kernel
theorem d_Lw_law_606 : decode code 606 = .ok (.dcmp .l, 1) := by decide +kernel
theorem d_Lw_law_607 : decode code 607 = .ok (.ifCond .eq 25, 3) := by decide +kernel
theorem d_Lw_law_610 : decode code 610 = .ok (.aload 4, 2) := by decide +kernel
theorem d_Lw_law_612 : decode code 612 = .ok (.iconst 0, 1) := by decide +kernel
theorem d_Lw_law_613 : decode code 613 = .ok (.daload, 1) := by decide +kernel
theorem d_Lw_law_614 : decode code 614 = .ok (.aload 4, 2) := by decide +kernel
theorem d_Lw_law_616 : decode code 616 = .ok (.iconst 0, 1) := by decide +kernel
theorem d_Lw_law_617 : decode code 617 = .ok (.daload, 1) := by decide +kernel
theorem d_Lw_law_618 : decode code 618 = .ok (.dcmp .l, 1) := by decide +kernel
theorem d_Lw_law_619 : decode code 619 = .ok (.ifCond .eq 11, 3) := by decide +kernel
theorem d_Lw_law_622 : decode code 622 = .ok (.dload 7, 2) := by decide +kernel
theorem d_Lw_law_624 : decode code 624 = .ok (.dload 7, 2) := by decide +kernel
theorem d_Lw_law_626 : decode code 626 = .ok (.dcmp .l, 1) := by decide +kernel
theorem d_Lw_law_627 : decode code 627 = .ok (.ifCond .ne 5, 3) := by decide +kernel
theorem d_Lw_law_630 : decode code 630 = .ok (.iconst 0, 1) := by decide +kernel
theorem d_Lw_law_631 : decode code 631 = .ok (.ireturn, 1) := by decide +kernel
theorem d_Lw_law_632 : decode code 632 = .ok (.goto 96, 3) := by decide +kernel
theorem d_Lw_law_635 : decode code 635 = .ok (.aload_n 1, 1) := by decide +kernel
theorem d_Lw_law_636 : decode code 636 = .ok (.aload_n 0, 1) := by decide +kernel
theorem d_Lw_law_637 : decode code 637 = .ok (.iload 5, 2) := by decide +kernel
theorem d_Lw_law_639 : decode code 639 = .ok (.iconst 1, 1) := by decide +kernel
theorem d_Lw_law_640 : decode code 640 = .ok (.iadd, 1) := by decide +kernel
theorem d_Lw_law_641 : decode code 641 = .ok (.iaload, 1) := by decide +kernel
theorem d_Lw_law_642 : decode code 642 = .ok (.aload_n 0, 1) := by decide +kernel
theorem d_Lw_law_643 : decode code 643 = .ok (.iload 5, 2) := by decide +kernel
theorem d_Lw_law_645 : decode code 645 = .ok (.iconst 2, 1) := by decide +kernel
theorem d_Lw_law_646 : decode code 646 = .ok (.iadd, 1) := by decide +kernel
theorem d_Lw_law_647 : decode code 647 = .ok (.iaload, 1) := by decide +kernel
theorem d_Lw_law_648 : decode code 648 = .ok (.aload_n 3, 1) := by decide +kernel
theorem d_Lw_law_649 : decode code 649 = .ok (.invokestatic 91, 3) := by decide +kernel
theorem d_Lw_law_652 : decode code 652 = .ok (.istore 6, 2) := by decide +kernel
theorem d_Lw_law_654 : decode code 654 = .ok (.aload_n 2, 1) := by decide +kernel
theorem d_Lw_law_655 : decode code 655 = .ok (.aload_n 0, 1) := by decide +kernel
theorem d_Lw_law_656 : decode code 656 = .ok (.iload 5, 2) := by decide +kernel
theorem d_Lw_law_658 : decode code 658 = .ok (.iconst 1, 1) := by decide +kernel
theorem d_Lw_law_659 : decode code 659 = .ok (.iadd, 1) := by decide +kernel
theorem d_Lw_law_660 : decode code 660 = .ok (.iaload, 1) := by decide +kernel
theorem d_Lw_law_661 : decode code 661 = .ok (.aload_n 0, 1) := by decide +kernel
theorem d_Lw_law_662 : decode code 662 = .ok (.iload 5, 2) := by decide +kernel
theorem d_Lw_law_664 : decode code 664 = .ok (.iconst 2, 1) := by decide +kernel
theorem d_Lw_law_665 : decode code 665 = .ok (.iadd, 1) := by decide +kernel
theorem d_Lw_law_666 : decode code 666 = .ok (.iaload, 1) := by decide +kernel
theorem d_Lw_law_667 : decode code 667 = .ok (.invokevirtual 94, 3) := by decide +kernel
theorem d_Lw_law_670 : decode code 670 = .ok (.istore 7, 2) := by decide +kernel
theorem d_Lw_law_672 : decode code 672 = .ok (.aload_n 2, 1) := by decide +kernel
theorem d_Lw_law_673 : decode code 673 = .ok (.invokevirtual 62, 3) := by decide +kernel
theorem d_Lw_law_676 : decode code 676 = .ok (.iload 6, 2) := by decide +kernel
theorem d_Lw_law_678 : decode code 678 = .ok (.if_icmp .eq 5, 3) := by decide +kernel
theorem d_Lw_law_681 : decode code 681 = .ok (.iconst 0, 1) := by decide +kernel
theorem d_Lw_law_682 : decode code 682 = .ok (.ireturn, 1) := by decide +kernel
theorem d_Lw_law_683 : decode code 683 = .ok (.iload 6, 2) := by decide +kernel
theorem d_Lw_law_685 : decode code 685 = .ok (.ifCond .ne 15, 3) := by decide +kernel
theorem d_Lw_law_688 : decode code 688 = .ok (.aload_n 3, 1) := by decide +kernel
theorem d_Lw_law_689 : decode code 689 = .ok (.iconst 0, 1) := by decide +kernel
theorem d_Lw_law_690 : decode code 690 = .ok (.laload, 1) := by decide +kernel
theorem d_Lw_law_691 : decode code 691 = .ok (.iload 7, 2) := by decide +kernel
theorem d_Lw_law_693 : decode code 693 = .ok (.i2l, 1) := by decide +kernel
theorem d_Lw_law_694 : decode code 694 = .ok (.lcmp, 1) := by decide +kernel
theorem d_Lw_law_695 : decode code 695 = .ok (.ifCond .eq 5, 3) := by decide +kernel
theorem d_Lw_law_698 : decode code 698 = .ok (.iconst 0, 1) := by decide +kernel
theorem d_Lw_law_699 : decode code 699 = .ok (.ireturn, 1) := by decide +kernel
theorem d_Lw_law_700 : decode code 700 = .ok (.goto 28, 3) := by decide +kernel
theorem d_Lw_law_703 : decode code 703 = .ok (.aload_n 1, 1) := by decide +kernel
theorem d_Lw_law_704 : decode code 704 = .ok (.aload_n 0, 1) := by decide +kernel
theorem d_Lw_law_705 : decode code 705 = .ok (.iload 5, 2) := by decide +kernel
theorem d_Lw_law_707 : decode code 707 = .ok (.iconst 1, 1) := by decide +kernel
theorem d_Lw_law_708 : decode code 708 = .ok (.iadd, 1) := by decide +kernel
theorem d_Lw_law_709 : decode code 709 = .ok (.iaload, 1) := by decide +kernel
theorem d_Lw_law_710 : decode code 710 = .ok (.invokevirtual 95, 3) := by decide +kernel
theorem d_Lw_law_713 : decode code 713 = .ok (.aload_n 2, 1) := by decide +kernel
theorem d_Lw_law_714 : decode code 714 = .ok (.aload_n 0, 1) := by decide +kernel
theorem d_Lw_law_715 : decode code 715 = .ok (.iload 5, 2) := by decide +kernel
theorem d_Lw_law_717 : decode code 717 = .ok (.iconst 1, 1) := by decide +kernel
theorem d_Lw_law_718 : decode code 718 = .ok (.iadd, 1) := by decide +kernel
theorem d_Lw_law_719 : decode code 719 = .ok (.iaload, 1) := by decide +kernel
theorem d_Lw_law_720 : decode code 720 = .ok (.invokevirtual 98, 3) := by decide +kernel
theorem d_Lw_law_723 : decode code 723 = .ok (.if_icmp .eq 5, 3) := by decide +kernel
theorem d_Lw_law_726 : decode code 726 = .ok (.iconst 0, 1) := by decide +kernel
theorem d_Lw_law_727 : decode code 727 = .ok (.ireturn, 1) := by decide +kernel
theorem d_Lw_law_728 : decode code 728 = .ok (.iinc 5 8, 3) := by decide +kernel
theorem d_Lw_law_731 : decode code 731 = .ok (.goto (-703), 3) := by decide +kernel
theorem d_Lw_law_734 : decode code 734 = .ok (.iconst 1, 1) := by decide +kernel
theorem d_Lw_law_735 : decode code 735 = .ok (.ireturn, 1) := by decide +kernel
