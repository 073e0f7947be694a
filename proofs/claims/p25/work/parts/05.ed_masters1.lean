theorem dL_masters_315 : decode cL_masters 315 = .ok (.iconst 3, 1) := by decide +kernel
theorem dL_masters_316 : decode cL_masters 316 = .ok (.if_icmp .ne 195, 3) := by decide +kernel
theorem dL_masters_319 : decode cL_masters 319 = .ok (.aload_n 0, 1) := by decide +kernel
theorem dL_masters_320 : decode cL_masters 320 = .ok (.iconst 3, 1) := by decide +kernel
theorem dL_masters_321 : decode cL_masters 321 = .ok (.invokevirtual 44, 3) := by decide +kernel
theorem dL_masters_324 : decode cL_masters 324 = .ok (.iconst 3, 1) := by decide +kernel
theorem dL_masters_325 : decode cL_masters 325 = .ok (.if_icmp .ne 186, 3) := by decide +kernel
theorem dL_masters_328 : decode cL_masters 328 = .ok (.aload_n 0, 1) := by decide +kernel
theorem dL_masters_329 : decode cL_masters 329 = .ok (.iconst 1, 1) := by decide +kernel
theorem dL_masters_330 : decode cL_masters 330 = .ok (.iconst 5, 1) := by decide +kernel
theorem dL_masters_331 : decode cL_masters 331 = .ok (.iconst 0, 1) := by decide +kernel
theorem dL_masters_332 : decode cL_masters 332 = .ok (.bipush 60, 2) := by decide +kernel
theorem dL_masters_334 : decode cL_masters 334 = .ok (.invokestatic 112, 3) := by decide +kernel
theorem dL_masters_337 : decode cL_masters 337 = .ok (.ifCond .eq 174, 3) := by decide +kernel
theorem dL_masters_340 : decode cL_masters 340 = .ok (.aload_n 0, 1) := by decide +kernel
theorem dL_masters_341 : decode cL_masters 341 = .ok (.iconst 2, 1) := by decide +kernel
theorem dL_masters_342 : decode cL_masters 342 = .ok (.iconst 1, 1) := by decide +kernel
theorem dL_masters_343 : decode cL_masters 343 = .ok (.invokevirtual 40, 3) := by decide +kernel
theorem dL_masters_346 : decode cL_masters 346 = .ok (.ifCond .eq 165, 3) := by decide +kernel
theorem dL_masters_349 : decode cL_masters 349 = .ok (.aload_n 0, 1) := by decide +kernel
theorem dL_masters_350 : decode cL_masters 350 = .ok (.iconst 1, 1) := by decide +kernel
theorem dL_masters_351 : decode cL_masters 351 = .ok (.iconst 5, 1) := by decide +kernel
theorem dL_masters_352 : decode cL_masters 352 = .ok (.iconst 0, 1) := by decide +kernel
theorem dL_masters_353 : decode cL_masters 353 = .ok (.iconst (-1), 1) := by decide +kernel
theorem dL_masters_354 : decode cL_masters 354 = .ok (.invokestatic 112, 3) := by decide +kernel
theorem dL_masters_357 : decode cL_masters 357 = .ok (.ifCond .eq 154, 3) := by decide +kernel
theorem dL_masters_360 : decode cL_masters 360 = .ok (.aload_n 0, 1) := by decide +kernel
theorem dL_masters_361 : decode cL_masters 361 = .ok (.iconst 3, 1) := by decide +kernel
theorem dL_masters_362 : decode cL_masters 362 = .ok (.iconst 0, 1) := by decide +kernel
theorem dL_masters_363 : decode cL_masters 363 = .ok (.invokevirtual 40, 3) := by decide +kernel
theorem dL_masters_366 : decode cL_masters 366 = .ok (.ifCond .eq 145, 3) := by decide +kernel
theorem dL_masters_369 : decode cL_masters 369 = .ok (.aload_n 0, 1) := by decide +kernel
theorem dL_masters_370 : decode cL_masters 370 = .ok (.iconst 0, 1) := by decide +kernel
theorem dL_masters_371 : decode cL_masters 371 = .ok (.iconst 5, 1) := by decide +kernel
theorem dL_masters_372 : decode cL_masters 372 = .ok (.iconst 0, 1) := by decide +kernel
theorem dL_masters_373 : decode cL_masters 373 = .ok (.iconst (-1), 1) := by decide +kernel
theorem dL_masters_374 : decode cL_masters 374 = .ok (.invokestatic 112, 3) := by decide +kernel
theorem dL_masters_377 : decode cL_masters 377 = .ok (.ifCond .eq 134, 3) := by decide +kernel
theorem dL_masters_380 : decode cL_masters 380 = .ok (.aload_n 0, 1) := by decide +kernel
theorem dL_masters_381 : decode cL_masters 381 = .ok (.iconst 0, 1) := by decide +kernel
theorem dL_masters_382 : decode cL_masters 382 = .ok (.iconst 4, 1) := by decide +kernel
theorem dL_masters_383 : decode cL_masters 383 = .ok (.iconst 0, 1) := by decide +kernel
theorem dL_masters_384 : decode cL_masters 384 = .ok (.bipush 10, 2) := by decide +kernel
theorem dL_masters_386 : decode cL_masters 386 = .ok (.invokestatic 112, 3) := by decide +kernel
theorem dL_masters_389 : decode cL_masters 389 = .ok (.ifCond .eq 122, 3) := by decide +kernel
theorem dL_masters_392 : decode cL_masters 392 = .ok (.aload_n 0, 1) := by decide +kernel
theorem dL_masters_393 : decode cL_masters 393 = .ok (.invokevirtual 87, 3) := by decide +kernel
theorem dL_masters_396 : decode cL_masters 396 = .ok (.ifCond .eq 115, 3) := by decide +kernel
theorem dL_masters_399 : decode cL_masters 399 = .ok (.aload_n 0, 1) := by decide +kernel
theorem dL_masters_400 : decode cL_masters 400 = .ok (.iconst 0, 1) := by decide +kernel
theorem dL_masters_401 : decode cL_masters 401 = .ok (.iconst 3, 1) := by decide +kernel
theorem dL_masters_402 : decode cL_masters 402 = .ok (.invokevirtual 36, 3) := by decide +kernel
theorem dL_masters_405 : decode cL_masters 405 = .ok (.iconst 5, 1) := by decide +kernel
theorem dL_masters_406 : decode cL_masters 406 = .ok (.if_icmp .ne 105, 3) := by decide +kernel
theorem dL_masters_409 : decode cL_masters 409 = .ok (.aload_n 0, 1) := by decide +kernel
theorem dL_masters_410 : decode cL_masters 410 = .ok (.iconst 0, 1) := by decide +kernel
theorem dL_masters_411 : decode cL_masters 411 = .ok (.iconst 3, 1) := by decide +kernel
theorem dL_masters_412 : decode cL_masters 412 = .ok (.invokevirtual 51, 3) := by decide +kernel
theorem dL_masters_415 : decode cL_masters 415 = .ok (.ifCond .ne 96, 3) := by decide +kernel
theorem dL_masters_418 : decode cL_masters 418 = .ok (.aload_n 0, 1) := by decide +kernel
theorem dL_masters_419 : decode cL_masters 419 = .ok (.iconst 1, 1) := by decide +kernel
theorem dL_masters_420 : decode cL_masters 420 = .ok (.iconst 3, 1) := by decide +kernel
theorem dL_masters_421 : decode cL_masters 421 = .ok (.iconst 1, 1) := by decide +kernel
theorem dL_masters_422 : decode cL_masters 422 = .ok (.iconst 0, 1) := by decide +kernel
theorem dL_masters_423 : decode cL_masters 423 = .ok (.invokevirtual 26, 3) := by decide +kernel
theorem dL_masters_426 : decode cL_masters 426 = .ok (.bipush 7, 2) := by decide +kernel
theorem dL_masters_428 : decode cL_masters 428 = .ok (.if_icmp .ne 83, 3) := by decide +kernel
theorem dL_masters_431 : decode cL_masters 431 = .ok (.aload_n 0, 1) := by decide +kernel
theorem dL_masters_432 : decode cL_masters 432 = .ok (.iconst 1, 1) := by decide +kernel
theorem dL_masters_433 : decode cL_masters 433 = .ok (.bipush 7, 2) := by decide +kernel
theorem dL_masters_435 : decode cL_masters 435 = .ok (.iconst 3, 1) := by decide +kernel
theorem dL_masters_436 : decode cL_masters 436 = .ok (.iconst 1, 1) := by decide +kernel
theorem dL_masters_437 : decode cL_masters 437 = .ok (.invokestatic 112, 3) := by decide +kernel
theorem dL_masters_440 : decode cL_masters 440 = .ok (.ifCond .eq 71, 3) := by decide +kernel
theorem dL_masters_443 : decode cL_masters 443 = .ok (.aload_n 0, 1) := by decide +kernel
theorem dL_masters_444 : decode cL_masters 444 = .ok (.iconst 5, 1) := by decide +kernel
theorem dL_masters_445 : decode cL_masters 445 = .ok (.iconst 0, 1) := by decide +kernel
theorem dL_masters_446 : decode cL_masters 446 = .ok (.invokevirtual 40, 3) := by decide +kernel
theorem dL_masters_449 : decode cL_masters 449 = .ok (.ifCond .eq 62, 3) := by decide +kernel
theorem dL_masters_452 : decode cL_masters 452 = .ok (.aload_n 0, 1) := by decide +kernel
theorem dL_masters_453 : decode cL_masters 453 = .ok (.iconst 0, 1) := by decide +kernel
theorem dL_masters_454 : decode cL_masters 454 = .ok (.bipush 7, 2) := by decide +kernel
theorem dL_masters_456 : decode cL_masters 456 = .ok (.iconst 1, 1) := by decide +kernel
theorem dL_masters_457 : decode cL_masters 457 = .ok (.iconst 1, 1) := by decide +kernel
theorem dL_masters_458 : decode cL_masters 458 = .ok (.invokestatic 112, 3) := by decide +kernel
theorem dL_masters_461 : decode cL_masters 461 = .ok (.ifCond .eq 50, 3) := by decide +kernel
theorem dL_masters_464 : decode cL_masters 464 = .ok (.aload_n 0, 1) := by decide +kernel
theorem dL_masters_465 : decode cL_masters 465 = .ok (.iconst 4, 1) := by decide +kernel
theorem dL_masters_466 : decode cL_masters 466 = .ok (.iconst 1, 1) := by decide +kernel
theorem dL_masters_467 : decode cL_masters 467 = .ok (.invokevirtual 40, 3) := by decide +kernel
theorem dL_masters_470 : decode cL_masters 470 = .ok (.ifCond .eq 41, 3) := by decide +kernel
theorem dL_masters_473 : decode cL_masters 473 = .ok (.aload_n 0, 1) := by decide +kernel
theorem dL_masters_474 : decode cL_masters 474 = .ok (.iconst 1, 1) := by decide +kernel
theorem dL_masters_475 : decode cL_masters 475 = .ok (.bipush 7, 2) := by decide +kernel
theorem dL_masters_477 : decode cL_masters 477 = .ok (.iconst 1, 1) := by decide +kernel
theorem dL_masters_478 : decode cL_masters 478 = .ok (.iconst 1, 1) := by decide +kernel
theorem dL_masters_479 : decode cL_masters 479 = .ok (.invokestatic 112, 3) := by decide +kernel
theorem dL_masters_482 : decode cL_masters 482 = .ok (.ifCond .eq 29, 3) := by decide +kernel
theorem dL_masters_485 : decode cL_masters 485 = .ok (.aload_n 0, 1) := by decide +kernel
theorem dL_masters_486 : decode cL_masters 486 = .ok (.iconst 1, 1) := by decide +kernel
theorem dL_masters_487 : decode cL_masters 487 = .ok (.bipush 6, 2) := by decide +kernel
theorem dL_masters_489 : decode cL_masters 489 = .ok (.invokevirtual 51, 3) := by decide +kernel
theorem dL_masters_492 : decode cL_masters 492 = .ok (.ifCond .ne 19, 3) := by decide +kernel
theorem dL_masters_495 : decode cL_masters 495 = .ok (.aload_n 0, 1) := by decide +kernel
theorem dL_masters_496 : decode cL_masters 496 = .ok (.invokevirtual 87, 3) := by decide +kernel
theorem dL_masters_499 : decode cL_masters 499 = .ok (.ifCond .eq 12, 3) := by decide +kernel
theorem dL_masters_502 : decode cL_masters 502 = .ok (.aload_n 0, 1) := by decide +kernel
theorem dL_masters_503 : decode cL_masters 503 = .ok (.iconst 0, 1) := by decide +kernel
theorem dL_masters_504 : decode cL_masters 504 = .ok (.iconst 3, 1) := by decide +kernel
theorem dL_masters_505 : decode cL_masters 505 = .ok (.invokestatic 116, 3) := by decide +kernel
theorem dL_masters_508 : decode cL_masters 508 = .ok (.ifCond .ne 5, 3) := by decide +kernel
theorem dL_masters_511 : decode cL_masters 511 = .ok (.iconst 0, 1) := by decide +kernel
theorem dL_masters_512 : decode cL_masters 512 = .ok (.ireturn, 1) := by decide +kernel
theorem dL_masters_513 : decode cL_masters 513 = .ok (.aload_n 0, 1) := by decide +kernel
theorem dL_masters_514 : decode cL_masters 514 = .ok (.iconst 0, 1) := by decide +kernel
theorem dL_masters_515 : decode cL_masters 515 = .ok (.iconst 0, 1) := by decide +kernel
theorem dL_masters_516 : decode cL_masters 516 = .ok (.bipush 20, 2) := by decide +kernel
theorem dL_masters_518 : decode cL_masters 518 = .ok (.iconst 0, 1) := by decide +kernel
theorem dL_masters_519 : decode cL_masters 519 = .ok (.invokevirtual 26, 3) := by decide +kernel
theorem dL_masters_522 : decode cL_masters 522 = .ok (.bipush 8, 2) := by decide +kernel
theorem dL_masters_524 : decode cL_masters 524 = .ok (.if_icmp .ne 170, 3) := by decide +kernel
theorem dL_masters_527 : decode cL_masters 527 = .ok (.aload_n 0, 1) := by decide +kernel
theorem dL_masters_528 : decode cL_masters 528 = .ok (.bipush 6, 2) := by decide +kernel
theorem dL_masters_530 : decode cL_masters 530 = .ok (.invokevirtual 44, 3) := by decide +kernel
theorem dL_masters_533 : decode cL_masters 533 = .ok (.iconst 5, 1) := by decide +kernel
theorem dL_masters_534 : decode cL_masters 534 = .ok (.if_icmp .ne 160, 3) := by decide +kernel
theorem dL_masters_537 : decode cL_masters 537 = .ok (.aload_n 0, 1) := by decide +kernel
theorem dL_masters_538 : decode cL_masters 538 = .ok (.bipush 6, 2) := by decide +kernel
theorem dL_masters_540 : decode cL_masters 540 = .ok (.iconst 1, 1) := by decide +kernel
theorem dL_masters_541 : decode cL_masters 541 = .ok (.invokevirtual 40, 3) := by decide +kernel
theorem dL_masters_544 : decode cL_masters 544 = .ok (.ifCond .eq 150, 3) := by decide +kernel
theorem dL_masters_547 : decode cL_masters 547 = .ok (.aload_n 0, 1) := by decide +kernel
theorem dL_masters_548 : decode cL_masters 548 = .ok (.iconst 0, 1) := by decide +kernel
theorem dL_masters_549 : decode cL_masters 549 = .ok (.iconst 2, 1) := by decide +kernel
theorem dL_masters_550 : decode cL_masters 550 = .ok (.bipush 8, 2) := by decide +kernel
theorem dL_masters_552 : decode cL_masters 552 = .ok (.iconst 2, 1) := by decide +kernel
theorem dL_masters_553 : decode cL_masters 553 = .ok (.invokevirtual 33, 3) := by decide +kernel
theorem dL_masters_556 : decode cL_masters 556 = .ok (.ifCond .ne 138, 3) := by decide +kernel
theorem dL_masters_559 : decode cL_masters 559 = .ok (.aload_n 0, 1) := by decide +kernel
theorem dL_masters_560 : decode cL_masters 560 = .ok (.iconst 1, 1) := by decide +kernel
theorem dL_masters_561 : decode cL_masters 561 = .ok (.bipush 8, 2) := by decide +kernel
theorem dL_masters_563 : decode cL_masters 563 = .ok (.iconst 2, 1) := by decide +kernel
theorem dL_masters_564 : decode cL_masters 564 = .ok (.iconst 3, 1) := by decide +kernel
theorem dL_masters_565 : decode cL_masters 565 = .ok (.invokevirtual 33, 3) := by decide +kernel
theorem dL_masters_568 : decode cL_masters 568 = .ok (.ifCond .ne 126, 3) := by decide +kernel
theorem dL_masters_571 : decode cL_masters 571 = .ok (.aload_n 0, 1) := by decide +kernel
theorem dL_masters_572 : decode cL_masters 572 = .ok (.iconst 1, 1) := by decide +kernel
theorem dL_masters_573 : decode cL_masters 573 = .ok (.bipush 8, 2) := by decide +kernel
theorem dL_masters_575 : decode cL_masters 575 = .ok (.iconst 2, 1) := by decide +kernel
theorem dL_masters_576 : decode cL_masters 576 = .ok (.iconst 3, 1) := by decide +kernel
theorem dL_masters_577 : decode cL_masters 577 = .ok (.invokestatic 112, 3) := by decide +kernel
theorem dL_masters_580 : decode cL_masters 580 = .ok (.ifCond .eq 114, 3) := by decide +kernel
theorem dL_masters_583 : decode cL_masters 583 = .ok (.aload_n 0, 1) := by decide +kernel
theorem dL_masters_584 : decode cL_masters 584 = .ok (.bipush 7, 2) := by decide +kernel
theorem dL_masters_586 : decode cL_masters 586 = .ok (.iconst 1, 1) := by decide +kernel
theorem dL_masters_587 : decode cL_masters 587 = .ok (.invokevirtual 40, 3) := by decide +kernel
theorem dL_masters_590 : decode cL_masters 590 = .ok (.ifCond .eq 104, 3) := by decide +kernel
theorem dL_masters_593 : decode cL_masters 593 = .ok (.aload_n 0, 1) := by decide +kernel
theorem dL_masters_594 : decode cL_masters 594 = .ok (.bipush 8, 2) := by decide +kernel
theorem dL_masters_596 : decode cL_masters 596 = .ok (.iconst 0, 1) := by decide +kernel
theorem dL_masters_597 : decode cL_masters 597 = .ok (.invokevirtual 40, 3) := by decide +kernel
theorem dL_masters_600 : decode cL_masters 600 = .ok (.ifCond .eq 94, 3) := by decide +kernel
theorem dL_masters_603 : decode cL_masters 603 = .ok (.aload_n 0, 1) := by decide +kernel
theorem dL_masters_604 : decode cL_masters 604 = .ok (.iconst 0, 1) := by decide +kernel
theorem dL_masters_605 : decode cL_masters 605 = .ok (.iconst 2, 1) := by decide +kernel
theorem dL_masters_606 : decode cL_masters 606 = .ok (.bipush 8, 2) := by decide +kernel
theorem dL_masters_608 : decode cL_masters 608 = .ok (.iconst 2, 1) := by decide +kernel
theorem dL_masters_609 : decode cL_masters 609 = .ok (.invokestatic 112, 3) := by decide +kernel
theorem dL_masters_612 : decode cL_masters 612 = .ok (.ifCond .eq 82, 3) := by decide +kernel
theorem dL_masters_615 : decode cL_masters 615 = .ok (.aload_n 0, 1) := by decide +kernel
theorem dL_masters_616 : decode cL_masters 616 = .ok (.iconst 1, 1) := by decide +kernel
theorem dL_masters_617 : decode cL_masters 617 = .ok (.bipush 8, 2) := by decide +kernel
theorem dL_masters_619 : decode cL_masters 619 = .ok (.iconst 0, 1) := by decide +kernel
theorem dL_masters_620 : decode cL_masters 620 = .ok (.bipush 20, 2) := by decide +kernel
theorem dL_masters_622 : decode cL_masters 622 = .ok (.invokestatic 112, 3) := by decide +kernel
theorem dL_masters_625 : decode cL_masters 625 = .ok (.ifCond .eq 69, 3) := by decide +kernel
theorem dL_masters_628 : decode cL_masters 628 = .ok (.aload_n 0, 1) := by decide +kernel
theorem dL_masters_629 : decode cL_masters 629 = .ok (.invokevirtual 87, 3) := by decide +kernel
theorem dL_masters_632 : decode cL_masters 632 = .ok (.ifCond .eq 62, 3) := by decide +kernel
theorem dL_masters_635 : decode cL_masters 635 = .ok (.aload_n 0, 1) := by decide +kernel
