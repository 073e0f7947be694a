theorem dL_searches_292 : decode cL_searches 292 = .ok (.iconst 1, 1) := by decide +kernel
theorem dL_searches_293 : decode cL_searches 293 = .ok (.iconst 4, 1) := by decide +kernel
theorem dL_searches_294 : decode cL_searches 294 = .ok (.invokevirtual 76, 3) := by decide +kernel
theorem dL_searches_297 : decode cL_searches 297 = .ok (.iconst 1, 1) := by decide +kernel
theorem dL_searches_298 : decode cL_searches 298 = .ok (.if_icmp .ne 122, 3) := by decide +kernel
theorem dL_searches_301 : decode cL_searches 301 = .ok (.aload_n 0, 1) := by decide +kernel
theorem dL_searches_302 : decode cL_searches 302 = .ok (.iconst 0, 1) := by decide +kernel
theorem dL_searches_303 : decode cL_searches 303 = .ok (.iconst 2, 1) := by decide +kernel
theorem dL_searches_304 : decode cL_searches 304 = .ok (.iconst 2, 1) := by decide +kernel
theorem dL_searches_305 : decode cL_searches 305 = .ok (.invokevirtual 76, 3) := by decide +kernel
theorem dL_searches_308 : decode cL_searches 308 = .ok (.iconst (-1), 1) := by decide +kernel
theorem dL_searches_309 : decode cL_searches 309 = .ok (.if_icmp .ne 111, 3) := by decide +kernel
theorem dL_searches_312 : decode cL_searches 312 = .ok (.aload_n 0, 1) := by decide +kernel
theorem dL_searches_313 : decode cL_searches 313 = .ok (.iconst 0, 1) := by decide +kernel
theorem dL_searches_314 : decode cL_searches 314 = .ok (.iconst 2, 1) := by decide +kernel
theorem dL_searches_315 : decode cL_searches 315 = .ok (.iconst 5, 1) := by decide +kernel
theorem dL_searches_316 : decode cL_searches 316 = .ok (.invokevirtual 76, 3) := by decide +kernel
theorem dL_searches_319 : decode cL_searches 319 = .ok (.iconst 1, 1) := by decide +kernel
theorem dL_searches_320 : decode cL_searches 320 = .ok (.if_icmp .ne 100, 3) := by decide +kernel
theorem dL_searches_323 : decode cL_searches 323 = .ok (.aload_n 0, 1) := by decide +kernel
theorem dL_searches_324 : decode cL_searches 324 = .ok (.iconst 0, 1) := by decide +kernel
theorem dL_searches_325 : decode cL_searches 325 = .ok (.iconst 3, 1) := by decide +kernel
theorem dL_searches_326 : decode cL_searches 326 = .ok (.iconst 2, 1) := by decide +kernel
theorem dL_searches_327 : decode cL_searches 327 = .ok (.invokevirtual 76, 3) := by decide +kernel
theorem dL_searches_330 : decode cL_searches 330 = .ok (.iconst 1, 1) := by decide +kernel
theorem dL_searches_331 : decode cL_searches 331 = .ok (.if_icmp .ne 89, 3) := by decide +kernel
theorem dL_searches_334 : decode cL_searches 334 = .ok (.aload_n 0, 1) := by decide +kernel
theorem dL_searches_335 : decode cL_searches 335 = .ok (.iconst 0, 1) := by decide +kernel
theorem dL_searches_336 : decode cL_searches 336 = .ok (.iconst 3, 1) := by decide +kernel
theorem dL_searches_337 : decode cL_searches 337 = .ok (.iconst 3, 1) := by decide +kernel
theorem dL_searches_338 : decode cL_searches 338 = .ok (.invokevirtual 76, 3) := by decide +kernel
theorem dL_searches_341 : decode cL_searches 341 = .ok (.iconst (-1), 1) := by decide +kernel
theorem dL_searches_342 : decode cL_searches 342 = .ok (.if_icmp .ne 78, 3) := by decide +kernel
theorem dL_searches_345 : decode cL_searches 345 = .ok (.aload_n 0, 1) := by decide +kernel
theorem dL_searches_346 : decode cL_searches 346 = .ok (.iconst 0, 1) := by decide +kernel
theorem dL_searches_347 : decode cL_searches 347 = .ok (.iconst 3, 1) := by decide +kernel
theorem dL_searches_348 : decode cL_searches 348 = .ok (.iconst 4, 1) := by decide +kernel
theorem dL_searches_349 : decode cL_searches 349 = .ok (.invokevirtual 76, 3) := by decide +kernel
theorem dL_searches_352 : decode cL_searches 352 = .ok (.iconst 1, 1) := by decide +kernel
theorem dL_searches_353 : decode cL_searches 353 = .ok (.if_icmp .ne 67, 3) := by decide +kernel
theorem dL_searches_356 : decode cL_searches 356 = .ok (.aload_n 0, 1) := by decide +kernel
theorem dL_searches_357 : decode cL_searches 357 = .ok (.iconst 0, 1) := by decide +kernel
theorem dL_searches_358 : decode cL_searches 358 = .ok (.iconst 3, 1) := by decide +kernel
theorem dL_searches_359 : decode cL_searches 359 = .ok (.iconst 5, 1) := by decide +kernel
theorem dL_searches_360 : decode cL_searches 360 = .ok (.invokevirtual 76, 3) := by decide +kernel
theorem dL_searches_363 : decode cL_searches 363 = .ok (.ifCond .ne 57, 3) := by decide +kernel
theorem dL_searches_366 : decode cL_searches 366 = .ok (.aload_n 0, 1) := by decide +kernel
theorem dL_searches_367 : decode cL_searches 367 = .ok (.iconst 0, 1) := by decide +kernel
theorem dL_searches_368 : decode cL_searches 368 = .ok (.iconst 4, 1) := by decide +kernel
theorem dL_searches_369 : decode cL_searches 369 = .ok (.iconst 2, 1) := by decide +kernel
theorem dL_searches_370 : decode cL_searches 370 = .ok (.invokevirtual 76, 3) := by decide +kernel
theorem dL_searches_373 : decode cL_searches 373 = .ok (.iconst (-1), 1) := by decide +kernel
theorem dL_searches_374 : decode cL_searches 374 = .ok (.if_icmp .ne 46, 3) := by decide +kernel
theorem dL_searches_377 : decode cL_searches 377 = .ok (.aload_n 0, 1) := by decide +kernel
theorem dL_searches_378 : decode cL_searches 378 = .ok (.iconst 0, 1) := by decide +kernel
theorem dL_searches_379 : decode cL_searches 379 = .ok (.iconst 4, 1) := by decide +kernel
theorem dL_searches_380 : decode cL_searches 380 = .ok (.iconst 3, 1) := by decide +kernel
theorem dL_searches_381 : decode cL_searches 381 = .ok (.invokevirtual 76, 3) := by decide +kernel
theorem dL_searches_384 : decode cL_searches 384 = .ok (.ifCond .ne 36, 3) := by decide +kernel
theorem dL_searches_387 : decode cL_searches 387 = .ok (.aload_n 0, 1) := by decide +kernel
theorem dL_searches_388 : decode cL_searches 388 = .ok (.iconst 0, 1) := by decide +kernel
theorem dL_searches_389 : decode cL_searches 389 = .ok (.iconst 4, 1) := by decide +kernel
theorem dL_searches_390 : decode cL_searches 390 = .ok (.iconst 4, 1) := by decide +kernel
theorem dL_searches_391 : decode cL_searches 391 = .ok (.invokevirtual 76, 3) := by decide +kernel
theorem dL_searches_394 : decode cL_searches 394 = .ok (.ifCond .ne 26, 3) := by decide +kernel
theorem dL_searches_397 : decode cL_searches 397 = .ok (.aload_n 0, 1) := by decide +kernel
theorem dL_searches_398 : decode cL_searches 398 = .ok (.iconst 0, 1) := by decide +kernel
theorem dL_searches_399 : decode cL_searches 399 = .ok (.bipush 6, 2) := by decide +kernel
theorem dL_searches_401 : decode cL_searches 401 = .ok (.iconst 3, 1) := by decide +kernel
theorem dL_searches_402 : decode cL_searches 402 = .ok (.invokevirtual 76, 3) := by decide +kernel
theorem dL_searches_405 : decode cL_searches 405 = .ok (.iconst 1, 1) := by decide +kernel
theorem dL_searches_406 : decode cL_searches 406 = .ok (.if_icmp .ne 14, 3) := by decide +kernel
theorem dL_searches_409 : decode cL_searches 409 = .ok (.aload_n 0, 1) := by decide +kernel
theorem dL_searches_410 : decode cL_searches 410 = .ok (.iconst 0, 1) := by decide +kernel
theorem dL_searches_411 : decode cL_searches 411 = .ok (.bipush 6, 2) := by decide +kernel
theorem dL_searches_413 : decode cL_searches 413 = .ok (.iconst 2, 1) := by decide +kernel
theorem dL_searches_414 : decode cL_searches 414 = .ok (.invokevirtual 76, 3) := by decide +kernel
theorem dL_searches_417 : decode cL_searches 417 = .ok (.ifCond .eq 5, 3) := by decide +kernel
theorem dL_searches_420 : decode cL_searches 420 = .ok (.iconst 0, 1) := by decide +kernel
theorem dL_searches_421 : decode cL_searches 421 = .ok (.ireturn, 1) := by decide +kernel
theorem dL_searches_422 : decode cL_searches 422 = .ok (.aload_n 0, 1) := by decide +kernel
theorem dL_searches_423 : decode cL_searches 423 = .ok (.iconst 0, 1) := by decide +kernel
theorem dL_searches_424 : decode cL_searches 424 = .ok (.iconst 0, 1) := by decide +kernel
theorem dL_searches_425 : decode cL_searches 425 = .ok (.iconst 2, 1) := by decide +kernel
theorem dL_searches_426 : decode cL_searches 426 = .ok (.iconst 2, 1) := by decide +kernel
theorem dL_searches_427 : decode cL_searches 427 = .ok (.iconst 0, 1) := by decide +kernel
theorem dL_searches_428 : decode cL_searches 428 = .ok (.iconst 5, 1) := by decide +kernel
theorem dL_searches_429 : decode cL_searches 429 = .ok (.iconst 1, 1) := by decide +kernel
theorem dL_searches_430 : decode cL_searches 430 = .ok (.iconst (-1), 1) := by decide +kernel
theorem dL_searches_431 : decode cL_searches 431 = .ok (.invokestatic 120, 3) := by decide +kernel
theorem dL_searches_434 : decode cL_searches 434 = .ok (.ifCond .eq 305, 3) := by decide +kernel
theorem dL_searches_437 : decode cL_searches 437 = .ok (.aload_n 0, 1) := by decide +kernel
theorem dL_searches_438 : decode cL_searches 438 = .ok (.iconst 0, 1) := by decide +kernel
theorem dL_searches_439 : decode cL_searches 439 = .ok (.iconst 0, 1) := by decide +kernel
theorem dL_searches_440 : decode cL_searches 440 = .ok (.iconst 2, 1) := by decide +kernel
theorem dL_searches_441 : decode cL_searches 441 = .ok (.iconst 5, 1) := by decide +kernel
theorem dL_searches_442 : decode cL_searches 442 = .ok (.iconst 0, 1) := by decide +kernel
theorem dL_searches_443 : decode cL_searches 443 = .ok (.iconst 5, 1) := by decide +kernel
theorem dL_searches_444 : decode cL_searches 444 = .ok (.iconst 4, 1) := by decide +kernel
theorem dL_searches_445 : decode cL_searches 445 = .ok (.iconst 1, 1) := by decide +kernel
theorem dL_searches_446 : decode cL_searches 446 = .ok (.invokestatic 120, 3) := by decide +kernel
theorem dL_searches_449 : decode cL_searches 449 = .ok (.ifCond .eq 290, 3) := by decide +kernel
theorem dL_searches_452 : decode cL_searches 452 = .ok (.aload_n 0, 1) := by decide +kernel
theorem dL_searches_453 : decode cL_searches 453 = .ok (.iconst 0, 1) := by decide +kernel
theorem dL_searches_454 : decode cL_searches 454 = .ok (.iconst 0, 1) := by decide +kernel
theorem dL_searches_455 : decode cL_searches 455 = .ok (.iconst 1, 1) := by decide +kernel
theorem dL_searches_456 : decode cL_searches 456 = .ok (.iconst 5, 1) := by decide +kernel
theorem dL_searches_457 : decode cL_searches 457 = .ok (.iconst 5, 1) := by decide +kernel
theorem dL_searches_458 : decode cL_searches 458 = .ok (.iconst 1, 1) := by decide +kernel
theorem dL_searches_459 : decode cL_searches 459 = .ok (.iconst (-1), 1) := by decide +kernel
theorem dL_searches_460 : decode cL_searches 460 = .ok (.iconst (-1), 1) := by decide +kernel
theorem dL_searches_461 : decode cL_searches 461 = .ok (.invokestatic 120, 3) := by decide +kernel
theorem dL_searches_464 : decode cL_searches 464 = .ok (.ifCond .eq 275, 3) := by decide +kernel
theorem dL_searches_467 : decode cL_searches 467 = .ok (.aload_n 0, 1) := by decide +kernel
theorem dL_searches_468 : decode cL_searches 468 = .ok (.iconst 0, 1) := by decide +kernel
theorem dL_searches_469 : decode cL_searches 469 = .ok (.iconst 0, 1) := by decide +kernel
theorem dL_searches_470 : decode cL_searches 470 = .ok (.iconst 0, 1) := by decide +kernel
theorem dL_searches_471 : decode cL_searches 471 = .ok (.iconst 5, 1) := by decide +kernel
theorem dL_searches_472 : decode cL_searches 472 = .ok (.iconst 0, 1) := by decide +kernel
theorem dL_searches_473 : decode cL_searches 473 = .ok (.iconst (-1), 1) := by decide +kernel
theorem dL_searches_474 : decode cL_searches 474 = .ok (.iconst (-1), 1) := by decide +kernel
theorem dL_searches_475 : decode cL_searches 475 = .ok (.iconst (-1), 1) := by decide +kernel
theorem dL_searches_476 : decode cL_searches 476 = .ok (.invokestatic 120, 3) := by decide +kernel
theorem dL_searches_479 : decode cL_searches 479 = .ok (.ifCond .eq 260, 3) := by decide +kernel
theorem dL_searches_482 : decode cL_searches 482 = .ok (.aload_n 0, 1) := by decide +kernel
theorem dL_searches_483 : decode cL_searches 483 = .ok (.iconst 0, 1) := by decide +kernel
theorem dL_searches_484 : decode cL_searches 484 = .ok (.iconst 2, 1) := by decide +kernel
theorem dL_searches_485 : decode cL_searches 485 = .ok (.iconst 0, 1) := by decide +kernel
theorem dL_searches_486 : decode cL_searches 486 = .ok (.iconst 5, 1) := by decide +kernel
theorem dL_searches_487 : decode cL_searches 487 = .ok (.iconst (-1), 1) := by decide +kernel
theorem dL_searches_488 : decode cL_searches 488 = .ok (.iconst (-1), 1) := by decide +kernel
theorem dL_searches_489 : decode cL_searches 489 = .ok (.iconst (-1), 1) := by decide +kernel
theorem dL_searches_490 : decode cL_searches 490 = .ok (.iconst (-1), 1) := by decide +kernel
theorem dL_searches_491 : decode cL_searches 491 = .ok (.invokestatic 120, 3) := by decide +kernel
theorem dL_searches_494 : decode cL_searches 494 = .ok (.ifCond .eq 245, 3) := by decide +kernel
theorem dL_searches_497 : decode cL_searches 497 = .ok (.aload_n 0, 1) := by decide +kernel
theorem dL_searches_498 : decode cL_searches 498 = .ok (.iconst 0, 1) := by decide +kernel
theorem dL_searches_499 : decode cL_searches 499 = .ok (.iconst 2, 1) := by decide +kernel
theorem dL_searches_500 : decode cL_searches 500 = .ok (.iconst 1, 1) := by decide +kernel
theorem dL_searches_501 : decode cL_searches 501 = .ok (.iconst 5, 1) := by decide +kernel
theorem dL_searches_502 : decode cL_searches 502 = .ok (.iconst 4, 1) := by decide +kernel
theorem dL_searches_503 : decode cL_searches 503 = .ok (.iconst (-1), 1) := by decide +kernel
theorem dL_searches_504 : decode cL_searches 504 = .ok (.iconst (-1), 1) := by decide +kernel
theorem dL_searches_505 : decode cL_searches 505 = .ok (.iconst (-1), 1) := by decide +kernel
theorem dL_searches_506 : decode cL_searches 506 = .ok (.invokestatic 120, 3) := by decide +kernel
theorem dL_searches_509 : decode cL_searches 509 = .ok (.ifCond .eq 230, 3) := by decide +kernel
theorem dL_searches_512 : decode cL_searches 512 = .ok (.aload_n 0, 1) := by decide +kernel
theorem dL_searches_513 : decode cL_searches 513 = .ok (.iconst 0, 1) := by decide +kernel
theorem dL_searches_514 : decode cL_searches 514 = .ok (.iconst 2, 1) := by decide +kernel
theorem dL_searches_515 : decode cL_searches 515 = .ok (.iconst 2, 1) := by decide +kernel
theorem dL_searches_516 : decode cL_searches 516 = .ok (.iconst 3, 1) := by decide +kernel
theorem dL_searches_517 : decode cL_searches 517 = .ok (.iconst 2, 1) := by decide +kernel
theorem dL_searches_518 : decode cL_searches 518 = .ok (.iconst 4, 1) := by decide +kernel
theorem dL_searches_519 : decode cL_searches 519 = .ok (.iconst (-1), 1) := by decide +kernel
theorem dL_searches_520 : decode cL_searches 520 = .ok (.iconst (-1), 1) := by decide +kernel
theorem dL_searches_521 : decode cL_searches 521 = .ok (.invokestatic 120, 3) := by decide +kernel
theorem dL_searches_524 : decode cL_searches 524 = .ok (.ifCond .eq 215, 3) := by decide +kernel
theorem dL_searches_527 : decode cL_searches 527 = .ok (.aload_n 0, 1) := by decide +kernel
theorem dL_searches_528 : decode cL_searches 528 = .ok (.iconst 0, 1) := by decide +kernel
theorem dL_searches_529 : decode cL_searches 529 = .ok (.iconst 4, 1) := by decide +kernel
theorem dL_searches_530 : decode cL_searches 530 = .ok (.iconst 1, 1) := by decide +kernel
theorem dL_searches_531 : decode cL_searches 531 = .ok (.iconst 5, 1) := by decide +kernel
theorem dL_searches_532 : decode cL_searches 532 = .ok (.iconst (-1), 1) := by decide +kernel
theorem dL_searches_533 : decode cL_searches 533 = .ok (.iconst (-1), 1) := by decide +kernel
theorem dL_searches_534 : decode cL_searches 534 = .ok (.iconst (-1), 1) := by decide +kernel
theorem dL_searches_535 : decode cL_searches 535 = .ok (.iconst (-1), 1) := by decide +kernel
theorem dL_searches_536 : decode cL_searches 536 = .ok (.invokestatic 120, 3) := by decide +kernel
theorem dL_searches_539 : decode cL_searches 539 = .ok (.ifCond .eq 200, 3) := by decide +kernel
theorem dL_searches_542 : decode cL_searches 542 = .ok (.aload_n 0, 1) := by decide +kernel
theorem dL_searches_543 : decode cL_searches 543 = .ok (.iconst 0, 1) := by decide +kernel
theorem dL_searches_544 : decode cL_searches 544 = .ok (.iconst 2, 1) := by decide +kernel
theorem dL_searches_545 : decode cL_searches 545 = .ok (.iconst 1, 1) := by decide +kernel
theorem dL_searches_546 : decode cL_searches 546 = .ok (.invokestatic 102, 3) := by decide +kernel
theorem dL_searches_549 : decode cL_searches 549 = .ok (.ifCond .ne 190, 3) := by decide +kernel
theorem dL_searches_552 : decode cL_searches 552 = .ok (.aload_n 0, 1) := by decide +kernel
theorem dL_searches_553 : decode cL_searches 553 = .ok (.iconst 0, 1) := by decide +kernel
theorem dL_searches_554 : decode cL_searches 554 = .ok (.iconst 2, 1) := by decide +kernel
theorem dL_searches_555 : decode cL_searches 555 = .ok (.iconst 2, 1) := by decide +kernel
theorem dL_searches_556 : decode cL_searches 556 = .ok (.iconst 3, 1) := by decide +kernel
theorem dL_searches_557 : decode cL_searches 557 = .ok (.iconst (-1), 1) := by decide +kernel
