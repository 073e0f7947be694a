theorem dL_refuses_338 : decode cL_refuses 338 = .ok (.if_icmp .ne 157, 3) := by decide +kernel
theorem dL_refuses_341 : decode cL_refuses 341 = .ok (.aload_n 0, 1) := by decide +kernel
theorem dL_refuses_342 : decode cL_refuses 342 = .ok (.iconst 1, 1) := by decide +kernel
theorem dL_refuses_343 : decode cL_refuses 343 = .ok (.iconst 0, 1) := by decide +kernel
theorem dL_refuses_344 : decode cL_refuses 344 = .ok (.iconst 0, 1) := by decide +kernel
theorem dL_refuses_345 : decode cL_refuses 345 = .ok (.iconst 0, 1) := by decide +kernel
theorem dL_refuses_346 : decode cL_refuses 346 = .ok (.iload 8, 2) := by decide +kernel
theorem dL_refuses_348 : decode cL_refuses 348 = .ok (.iconst 1, 1) := by decide +kernel
theorem dL_refuses_349 : decode cL_refuses 349 = .ok (.if_icmp .ne 8, 3) := by decide +kernel
theorem dL_refuses_352 : decode cL_refuses 352 = .ok (.bipush 10, 2) := by decide +kernel
theorem dL_refuses_354 : decode cL_refuses 354 = .ok (.goto 5, 3) := by decide +kernel
theorem dL_refuses_357 : decode cL_refuses 357 = .ok (.iload 10, 2) := by decide +kernel
theorem dL_refuses_359 : decode cL_refuses 359 = .ok (.invokestatic 98, 3) := by decide +kernel
theorem dL_refuses_362 : decode cL_refuses 362 = .ok (.bipush (-72), 2) := by decide +kernel
theorem dL_refuses_364 : decode cL_refuses 364 = .ok (.if_icmp .ne 131, 3) := by decide +kernel
theorem dL_refuses_367 : decode cL_refuses 367 = .ok (.aload_n 0, 1) := by decide +kernel
theorem dL_refuses_368 : decode cL_refuses 368 = .ok (.iconst 2, 1) := by decide +kernel
theorem dL_refuses_369 : decode cL_refuses 369 = .ok (.iload 11, 2) := by decide +kernel
theorem dL_refuses_371 : decode cL_refuses 371 = .ok (.iconst 0, 1) := by decide +kernel
theorem dL_refuses_372 : decode cL_refuses 372 = .ok (.iconst 0, 1) := by decide +kernel
theorem dL_refuses_373 : decode cL_refuses 373 = .ok (.iconst (-1), 1) := by decide +kernel
theorem dL_refuses_374 : decode cL_refuses 374 = .ok (.invokestatic 98, 3) := by decide +kernel
theorem dL_refuses_377 : decode cL_refuses 377 = .ok (.bipush (-71), 2) := by decide +kernel
theorem dL_refuses_379 : decode cL_refuses 379 = .ok (.if_icmp .ne 116, 3) := by decide +kernel
theorem dL_refuses_382 : decode cL_refuses 382 = .ok (.aload_n 0, 1) := by decide +kernel
theorem dL_refuses_383 : decode cL_refuses 383 = .ok (.iconst 2, 1) := by decide +kernel
theorem dL_refuses_384 : decode cL_refuses 384 = .ok (.iconst 0, 1) := by decide +kernel
theorem dL_refuses_385 : decode cL_refuses 385 = .ok (.iload 12, 2) := by decide +kernel
theorem dL_refuses_387 : decode cL_refuses 387 = .ok (.iconst 0, 1) := by decide +kernel
theorem dL_refuses_388 : decode cL_refuses 388 = .ok (.iconst (-1), 1) := by decide +kernel
theorem dL_refuses_389 : decode cL_refuses 389 = .ok (.invokestatic 98, 3) := by decide +kernel
theorem dL_refuses_392 : decode cL_refuses 392 = .ok (.bipush (-71), 2) := by decide +kernel
theorem dL_refuses_394 : decode cL_refuses 394 = .ok (.if_icmp .ne 101, 3) := by decide +kernel
theorem dL_refuses_397 : decode cL_refuses 397 = .ok (.aload_n 0, 1) := by decide +kernel
theorem dL_refuses_398 : decode cL_refuses 398 = .ok (.iconst 2, 1) := by decide +kernel
theorem dL_refuses_399 : decode cL_refuses 399 = .ok (.iconst 0, 1) := by decide +kernel
theorem dL_refuses_400 : decode cL_refuses 400 = .ok (.iconst 0, 1) := by decide +kernel
theorem dL_refuses_401 : decode cL_refuses 401 = .ok (.iload 12, 2) := by decide +kernel
theorem dL_refuses_403 : decode cL_refuses 403 = .ok (.iconst (-1), 1) := by decide +kernel
theorem dL_refuses_404 : decode cL_refuses 404 = .ok (.invokestatic 98, 3) := by decide +kernel
theorem dL_refuses_407 : decode cL_refuses 407 = .ok (.bipush (-71), 2) := by decide +kernel
theorem dL_refuses_409 : decode cL_refuses 409 = .ok (.if_icmp .ne 86, 3) := by decide +kernel
theorem dL_refuses_412 : decode cL_refuses 412 = .ok (.aload_n 0, 1) := by decide +kernel
theorem dL_refuses_413 : decode cL_refuses 413 = .ok (.iconst 2, 1) := by decide +kernel
theorem dL_refuses_414 : decode cL_refuses 414 = .ok (.iconst 0, 1) := by decide +kernel
theorem dL_refuses_415 : decode cL_refuses 415 = .ok (.iconst 0, 1) := by decide +kernel
theorem dL_refuses_416 : decode cL_refuses 416 = .ok (.iconst 0, 1) := by decide +kernel
theorem dL_refuses_417 : decode cL_refuses 417 = .ok (.iload 15, 2) := by decide +kernel
theorem dL_refuses_419 : decode cL_refuses 419 = .ok (.invokestatic 98, 3) := by decide +kernel
theorem dL_refuses_422 : decode cL_refuses 422 = .ok (.bipush (-72), 2) := by decide +kernel
theorem dL_refuses_424 : decode cL_refuses 424 = .ok (.if_icmp .ne 71, 3) := by decide +kernel
theorem dL_refuses_427 : decode cL_refuses 427 = .ok (.aload_n 0, 1) := by decide +kernel
theorem dL_refuses_428 : decode cL_refuses 428 = .ok (.iconst 2, 1) := by decide +kernel
theorem dL_refuses_429 : decode cL_refuses 429 = .ok (.iconst 0, 1) := by decide +kernel
theorem dL_refuses_430 : decode cL_refuses 430 = .ok (.iload 8, 2) := by decide +kernel
theorem dL_refuses_432 : decode cL_refuses 432 = .ok (.iconst 2, 1) := by decide +kernel
theorem dL_refuses_433 : decode cL_refuses 433 = .ok (.irem, 1) := by decide +kernel
theorem dL_refuses_434 : decode cL_refuses 434 = .ok (.iconst 0, 1) := by decide +kernel
theorem dL_refuses_435 : decode cL_refuses 435 = .ok (.iconst 5, 1) := by decide +kernel
theorem dL_refuses_436 : decode cL_refuses 436 = .ok (.invokestatic 98, 3) := by decide +kernel
theorem dL_refuses_439 : decode cL_refuses 439 = .ok (.bipush (-73), 2) := by decide +kernel
theorem dL_refuses_441 : decode cL_refuses 441 = .ok (.if_icmp .ne 54, 3) := by decide +kernel
theorem dL_refuses_444 : decode cL_refuses 444 = .ok (.aload_n 0, 1) := by decide +kernel
theorem dL_refuses_445 : decode cL_refuses 445 = .ok (.iconst 3, 1) := by decide +kernel
theorem dL_refuses_446 : decode cL_refuses 446 = .ok (.iload 11, 2) := by decide +kernel
theorem dL_refuses_448 : decode cL_refuses 448 = .ok (.iconst 0, 1) := by decide +kernel
theorem dL_refuses_449 : decode cL_refuses 449 = .ok (.iconst 0, 1) := by decide +kernel
theorem dL_refuses_450 : decode cL_refuses 450 = .ok (.iconst 0, 1) := by decide +kernel
theorem dL_refuses_451 : decode cL_refuses 451 = .ok (.invokestatic 98, 3) := by decide +kernel
theorem dL_refuses_454 : decode cL_refuses 454 = .ok (.bipush (-71), 2) := by decide +kernel
theorem dL_refuses_456 : decode cL_refuses 456 = .ok (.if_icmp .ne 39, 3) := by decide +kernel
theorem dL_refuses_459 : decode cL_refuses 459 = .ok (.aload_n 0, 1) := by decide +kernel
theorem dL_refuses_460 : decode cL_refuses 460 = .ok (.iconst 3, 1) := by decide +kernel
theorem dL_refuses_461 : decode cL_refuses 461 = .ok (.iconst 0, 1) := by decide +kernel
theorem dL_refuses_462 : decode cL_refuses 462 = .ok (.iload 12, 2) := by decide +kernel
theorem dL_refuses_464 : decode cL_refuses 464 = .ok (.iconst 0, 1) := by decide +kernel
theorem dL_refuses_465 : decode cL_refuses 465 = .ok (.iconst 0, 1) := by decide +kernel
theorem dL_refuses_466 : decode cL_refuses 466 = .ok (.invokestatic 98, 3) := by decide +kernel
theorem dL_refuses_469 : decode cL_refuses 469 = .ok (.bipush (-71), 2) := by decide +kernel
theorem dL_refuses_471 : decode cL_refuses 471 = .ok (.if_icmp .ne 24, 3) := by decide +kernel
theorem dL_refuses_474 : decode cL_refuses 474 = .ok (.aload_n 0, 1) := by decide +kernel
theorem dL_refuses_475 : decode cL_refuses 475 = .ok (.iconst 3, 1) := by decide +kernel
theorem dL_refuses_476 : decode cL_refuses 476 = .ok (.iconst 0, 1) := by decide +kernel
theorem dL_refuses_477 : decode cL_refuses 477 = .ok (.iload 8, 2) := by decide +kernel
theorem dL_refuses_479 : decode cL_refuses 479 = .ok (.iconst 2, 1) := by decide +kernel
theorem dL_refuses_480 : decode cL_refuses 480 = .ok (.irem, 1) := by decide +kernel
theorem dL_refuses_481 : decode cL_refuses 481 = .ok (.iconst 0, 1) := by decide +kernel
theorem dL_refuses_482 : decode cL_refuses 482 = .ok (.iconst 0, 1) := by decide +kernel
theorem dL_refuses_483 : decode cL_refuses 483 = .ok (.invokestatic 98, 3) := by decide +kernel
theorem dL_refuses_486 : decode cL_refuses 486 = .ok (.bipush (-73), 2) := by decide +kernel
theorem dL_refuses_488 : decode cL_refuses 488 = .ok (.if_icmp .ne 7, 3) := by decide +kernel
theorem dL_refuses_491 : decode cL_refuses 491 = .ok (.iconst 1, 1) := by decide +kernel
theorem dL_refuses_492 : decode cL_refuses 492 = .ok (.goto 4, 3) := by decide +kernel
theorem dL_refuses_495 : decode cL_refuses 495 = .ok (.iconst 0, 1) := by decide +kernel
theorem dL_refuses_496 : decode cL_refuses 496 = .ok (.istore 19, 2) := by decide +kernel
theorem dL_refuses_498 : decode cL_refuses 498 = .ok (.iload 19, 2) := by decide +kernel
theorem dL_refuses_500 : decode cL_refuses 500 = .ok (.ifCond .eq 293, 3) := by decide +kernel
theorem dL_refuses_503 : decode cL_refuses 503 = .ok (.aload_n 0, 1) := by decide +kernel
theorem dL_refuses_504 : decode cL_refuses 504 = .ok (.iconst 4, 1) := by decide +kernel
theorem dL_refuses_505 : decode cL_refuses 505 = .ok (.iload 8, 2) := by decide +kernel
theorem dL_refuses_507 : decode cL_refuses 507 = .ok (.iconst 1, 1) := by decide +kernel
theorem dL_refuses_508 : decode cL_refuses 508 = .ok (.if_icmp .ne 7, 3) := by decide +kernel
theorem dL_refuses_511 : decode cL_refuses 511 = .ok (.iload_n 3, 1) := by decide +kernel
theorem dL_refuses_512 : decode cL_refuses 512 = .ok (.goto 5, 3) := by decide +kernel
theorem dL_refuses_515 : decode cL_refuses 515 = .ok (.iload 9, 2) := by decide +kernel
theorem dL_refuses_517 : decode cL_refuses 517 = .ok (.iconst 0, 1) := by decide +kernel
theorem dL_refuses_518 : decode cL_refuses 518 = .ok (.iconst 0, 1) := by decide +kernel
theorem dL_refuses_519 : decode cL_refuses 519 = .ok (.iconst 0, 1) := by decide +kernel
theorem dL_refuses_520 : decode cL_refuses 520 = .ok (.invokestatic 98, 3) := by decide +kernel
theorem dL_refuses_523 : decode cL_refuses 523 = .ok (.bipush (-71), 2) := by decide +kernel
theorem dL_refuses_525 : decode cL_refuses 525 = .ok (.if_icmp .ne 268, 3) := by decide +kernel
theorem dL_refuses_528 : decode cL_refuses 528 = .ok (.aload_n 0, 1) := by decide +kernel
theorem dL_refuses_529 : decode cL_refuses 529 = .ok (.iconst 4, 1) := by decide +kernel
theorem dL_refuses_530 : decode cL_refuses 530 = .ok (.iconst 0, 1) := by decide +kernel
theorem dL_refuses_531 : decode cL_refuses 531 = .ok (.iload 11, 2) := by decide +kernel
theorem dL_refuses_533 : decode cL_refuses 533 = .ok (.iconst 0, 1) := by decide +kernel
theorem dL_refuses_534 : decode cL_refuses 534 = .ok (.iconst 0, 1) := by decide +kernel
theorem dL_refuses_535 : decode cL_refuses 535 = .ok (.invokestatic 98, 3) := by decide +kernel
theorem dL_refuses_538 : decode cL_refuses 538 = .ok (.bipush (-71), 2) := by decide +kernel
theorem dL_refuses_540 : decode cL_refuses 540 = .ok (.if_icmp .ne 253, 3) := by decide +kernel
theorem dL_refuses_543 : decode cL_refuses 543 = .ok (.aload_n 0, 1) := by decide +kernel
theorem dL_refuses_544 : decode cL_refuses 544 = .ok (.iconst 5, 1) := by decide +kernel
theorem dL_refuses_545 : decode cL_refuses 545 = .ok (.iload 8, 2) := by decide +kernel
theorem dL_refuses_547 : decode cL_refuses 547 = .ok (.iconst 1, 1) := by decide +kernel
theorem dL_refuses_548 : decode cL_refuses 548 = .ok (.if_icmp .ne 7, 3) := by decide +kernel
theorem dL_refuses_551 : decode cL_refuses 551 = .ok (.iload_n 3, 1) := by decide +kernel
theorem dL_refuses_552 : decode cL_refuses 552 = .ok (.goto 5, 3) := by decide +kernel
theorem dL_refuses_555 : decode cL_refuses 555 = .ok (.iload 9, 2) := by decide +kernel
theorem dL_refuses_557 : decode cL_refuses 557 = .ok (.iconst 0, 1) := by decide +kernel
theorem dL_refuses_558 : decode cL_refuses 558 = .ok (.iconst 0, 1) := by decide +kernel
theorem dL_refuses_559 : decode cL_refuses 559 = .ok (.iconst 0, 1) := by decide +kernel
theorem dL_refuses_560 : decode cL_refuses 560 = .ok (.invokestatic 98, 3) := by decide +kernel
theorem dL_refuses_563 : decode cL_refuses 563 = .ok (.bipush (-71), 2) := by decide +kernel
theorem dL_refuses_565 : decode cL_refuses 565 = .ok (.if_icmp .ne 228, 3) := by decide +kernel
theorem dL_refuses_568 : decode cL_refuses 568 = .ok (.aload_n 0, 1) := by decide +kernel
theorem dL_refuses_569 : decode cL_refuses 569 = .ok (.bipush 6, 2) := by decide +kernel
theorem dL_refuses_571 : decode cL_refuses 571 = .ok (.iload 11, 2) := by decide +kernel
theorem dL_refuses_573 : decode cL_refuses 573 = .ok (.iconst 0, 1) := by decide +kernel
theorem dL_refuses_574 : decode cL_refuses 574 = .ok (.iconst 0, 1) := by decide +kernel
theorem dL_refuses_575 : decode cL_refuses 575 = .ok (.iconst 0, 1) := by decide +kernel
theorem dL_refuses_576 : decode cL_refuses 576 = .ok (.invokestatic 98, 3) := by decide +kernel
theorem dL_refuses_579 : decode cL_refuses 579 = .ok (.bipush (-71), 2) := by decide +kernel
theorem dL_refuses_581 : decode cL_refuses 581 = .ok (.if_icmp .ne 212, 3) := by decide +kernel
theorem dL_refuses_584 : decode cL_refuses 584 = .ok (.aload_n 0, 1) := by decide +kernel
theorem dL_refuses_585 : decode cL_refuses 585 = .ok (.bipush 7, 2) := by decide +kernel
theorem dL_refuses_587 : decode cL_refuses 587 = .ok (.iload 11, 2) := by decide +kernel
theorem dL_refuses_589 : decode cL_refuses 589 = .ok (.iconst 0, 1) := by decide +kernel
theorem dL_refuses_590 : decode cL_refuses 590 = .ok (.iconst 0, 1) := by decide +kernel
theorem dL_refuses_591 : decode cL_refuses 591 = .ok (.iconst 0, 1) := by decide +kernel
theorem dL_refuses_592 : decode cL_refuses 592 = .ok (.invokestatic 98, 3) := by decide +kernel
theorem dL_refuses_595 : decode cL_refuses 595 = .ok (.bipush (-71), 2) := by decide +kernel
theorem dL_refuses_597 : decode cL_refuses 597 = .ok (.if_icmp .ne 196, 3) := by decide +kernel
theorem dL_refuses_600 : decode cL_refuses 600 = .ok (.aload_n 0, 1) := by decide +kernel
theorem dL_refuses_601 : decode cL_refuses 601 = .ok (.iconst 0, 1) := by decide +kernel
theorem dL_refuses_602 : decode cL_refuses 602 = .ok (.iload 12, 2) := by decide +kernel
theorem dL_refuses_604 : decode cL_refuses 604 = .ok (.invokevirtual 51, 3) := by decide +kernel
theorem dL_refuses_607 : decode cL_refuses 607 = .ok (.ifCond .ne 186, 3) := by decide +kernel
theorem dL_refuses_610 : decode cL_refuses 610 = .ok (.aload_n 0, 1) := by decide +kernel
theorem dL_refuses_611 : decode cL_refuses 611 = .ok (.bipush 10, 2) := by decide +kernel
theorem dL_refuses_613 : decode cL_refuses 613 = .ok (.iconst 0, 1) := by decide +kernel
theorem dL_refuses_614 : decode cL_refuses 614 = .ok (.iconst 0, 1) := by decide +kernel
theorem dL_refuses_615 : decode cL_refuses 615 = .ok (.iload 14, 2) := by decide +kernel
theorem dL_refuses_617 : decode cL_refuses 617 = .ok (.iconst 0, 1) := by decide +kernel
theorem dL_refuses_618 : decode cL_refuses 618 = .ok (.invokestatic 98, 3) := by decide +kernel
theorem dL_refuses_621 : decode cL_refuses 621 = .ok (.bipush (-71), 2) := by decide +kernel
theorem dL_refuses_623 : decode cL_refuses 623 = .ok (.if_icmp .ne 170, 3) := by decide +kernel
theorem dL_refuses_626 : decode cL_refuses 626 = .ok (.aload_n 0, 1) := by decide +kernel
theorem dL_refuses_627 : decode cL_refuses 627 = .ok (.bipush 12, 2) := by decide +kernel
theorem dL_refuses_629 : decode cL_refuses 629 = .ok (.iconst 0, 1) := by decide +kernel
theorem dL_refuses_630 : decode cL_refuses 630 = .ok (.iload 12, 2) := by decide +kernel
theorem dL_refuses_632 : decode cL_refuses 632 = .ok (.iconst (-1), 1) := by decide +kernel
theorem dL_refuses_633 : decode cL_refuses 633 = .ok (.iconst 0, 1) := by decide +kernel
theorem dL_refuses_634 : decode cL_refuses 634 = .ok (.invokestatic 98, 3) := by decide +kernel
theorem dL_refuses_637 : decode cL_refuses 637 = .ok (.bipush (-71), 2) := by decide +kernel
theorem dL_refuses_639 : decode cL_refuses 639 = .ok (.if_icmp .ne 154, 3) := by decide +kernel
theorem dL_refuses_642 : decode cL_refuses 642 = .ok (.aload_n 0, 1) := by decide +kernel
theorem dL_refuses_643 : decode cL_refuses 643 = .ok (.bipush 12, 2) := by decide +kernel
theorem dL_refuses_645 : decode cL_refuses 645 = .ok (.iconst 0, 1) := by decide +kernel
theorem dL_refuses_646 : decode cL_refuses 646 = .ok (.iconst 0, 1) := by decide +kernel
theorem dL_refuses_647 : decode cL_refuses 647 = .ok (.iload 15, 2) := by decide +kernel
