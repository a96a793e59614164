theorem jd_law_446 : decode code 446 = .ok (.iconst 2, 1) := by decide +kernel
theorem jd_law_447 : decode code 447 = .ok (.iadd, 1) := by decide +kernel
theorem jd_law_448 : decode code 448 = .ok (.iaload, 1) := by decide +kernel
theorem jd_law_449 : decode code 449 = .ok (.invokevirtual 57, 3) := by decide +kernel
theorem jd_law_452 : decode code 452 = .ok (.aload_n 2, 1) := by decide +kernel
theorem jd_law_453 : decode code 453 = .ok (.aload_n 0, 1) := by decide +kernel
theorem jd_law_454 : decode code 454 = .ok (.iload_n 3, 1) := by decide +kernel
theorem jd_law_455 : decode code 455 = .ok (.iconst 1, 1) := by decide +kernel
theorem jd_law_456 : decode code 456 = .ok (.iadd, 1) := by decide +kernel
theorem jd_law_457 : decode code 457 = .ok (.iaload, 1) := by decide +kernel
theorem jd_law_458 : decode code 458 = .ok (.aload_n 0, 1) := by decide +kernel
theorem jd_law_459 : decode code 459 = .ok (.iload_n 3, 1) := by decide +kernel
theorem jd_law_460 : decode code 460 = .ok (.iconst 2, 1) := by decide +kernel
theorem jd_law_461 : decode code 461 = .ok (.iadd, 1) := by decide +kernel
theorem jd_law_462 : decode code 462 = .ok (.iaload, 1) := by decide +kernel
theorem jd_law_463 : decode code 463 = .ok (.invokevirtual 60, 3) := by decide +kernel
theorem jd_law_466 : decode code 466 = .ok (.if_icmp .eq 562, 3) := by decide +kernel
theorem jd_law_469 : decode code 469 = .ok (.iconst 0, 1) := by decide +kernel
theorem jd_law_470 : decode code 470 = .ok (.ireturn, 1) := by decide +kernel
theorem jd_law_471 : decode code 471 = .ok (.aload_n 1, 1) := by decide +kernel
theorem jd_law_472 : decode code 472 = .ok (.aload_n 0, 1) := by decide +kernel
theorem jd_law_473 : decode code 473 = .ok (.iload_n 3, 1) := by decide +kernel
theorem jd_law_474 : decode code 474 = .ok (.iconst 1, 1) := by decide +kernel
theorem jd_law_475 : decode code 475 = .ok (.iadd, 1) := by decide +kernel
theorem jd_law_476 : decode code 476 = .ok (.iaload, 1) := by decide +kernel
theorem jd_law_477 : decode code 477 = .ok (.invokevirtual 61, 3) := by decide +kernel
theorem jd_law_480 : decode code 480 = .ok (.aload_n 2, 1) := by decide +kernel
theorem jd_law_481 : decode code 481 = .ok (.aload_n 0, 1) := by decide +kernel
theorem jd_law_482 : decode code 482 = .ok (.iload_n 3, 1) := by decide +kernel
theorem jd_law_483 : decode code 483 = .ok (.iconst 1, 1) := by decide +kernel
theorem jd_law_484 : decode code 484 = .ok (.iadd, 1) := by decide +kernel
theorem jd_law_485 : decode code 485 = .ok (.iaload, 1) := by decide +kernel
theorem jd_law_486 : decode code 486 = .ok (.invokevirtual 64, 3) := by decide +kernel
theorem jd_law_489 : decode code 489 = .ok (.if_icmp .eq 539, 3) := by decide +kernel
theorem jd_law_492 : decode code 492 = .ok (.iconst 0, 1) := by decide +kernel
theorem jd_law_493 : decode code 493 = .ok (.ireturn, 1) := by decide +kernel
theorem jd_law_494 : decode code 494 = .ok (.aload_n 1, 1) := by decide +kernel
theorem jd_law_495 : decode code 495 = .ok (.aload_n 0, 1) := by decide +kernel
theorem jd_law_496 : decode code 496 = .ok (.iload_n 3, 1) := by decide +kernel
theorem jd_law_497 : decode code 497 = .ok (.iconst 1, 1) := by decide +kernel
theorem jd_law_498 : decode code 498 = .ok (.iadd, 1) := by decide +kernel
theorem jd_law_499 : decode code 499 = .ok (.iaload, 1) := by decide +kernel
theorem jd_law_500 : decode code 500 = .ok (.aload_n 0, 1) := by decide +kernel
theorem jd_law_501 : decode code 501 = .ok (.iload_n 3, 1) := by decide +kernel
theorem jd_law_502 : decode code 502 = .ok (.iconst 2, 1) := by decide +kernel
theorem jd_law_503 : decode code 503 = .ok (.iadd, 1) := by decide +kernel
theorem jd_law_504 : decode code 504 = .ok (.iaload, 1) := by decide +kernel
theorem jd_law_505 : decode code 505 = .ok (.invokevirtual 65, 3) := by decide +kernel
theorem jd_law_508 : decode code 508 = .ok (.aload_n 2, 1) := by decide +kernel
theorem jd_law_509 : decode code 509 = .ok (.aload_n 0, 1) := by decide +kernel
theorem jd_law_510 : decode code 510 = .ok (.iload_n 3, 1) := by decide +kernel
theorem jd_law_511 : decode code 511 = .ok (.iconst 1, 1) := by decide +kernel
theorem jd_law_512 : decode code 512 = .ok (.iadd, 1) := by decide +kernel
theorem jd_law_513 : decode code 513 = .ok (.iaload, 1) := by decide +kernel
theorem jd_law_514 : decode code 514 = .ok (.aload_n 0, 1) := by decide +kernel
theorem jd_law_515 : decode code 515 = .ok (.iload_n 3, 1) := by decide +kernel
theorem jd_law_516 : decode code 516 = .ok (.iconst 2, 1) := by decide +kernel
theorem jd_law_517 : decode code 517 = .ok (.iadd, 1) := by decide +kernel
theorem jd_law_518 : decode code 518 = .ok (.iaload, 1) := by decide +kernel
theorem jd_law_519 : decode code 519 = .ok (.invokevirtual 68, 3) := by decide +kernel
theorem jd_law_522 : decode code 522 = .ok (.if_icmp .eq 506, 3) := by decide +kernel
theorem jd_law_525 : decode code 525 = .ok (.iconst 0, 1) := by decide +kernel
theorem jd_law_526 : decode code 526 = .ok (.ireturn, 1) := by decide +kernel
theorem jd_law_527 : decode code 527 = .ok (.aload_n 1, 1) := by decide +kernel
theorem jd_law_528 : decode code 528 = .ok (.invokevirtual 69, 3) := by decide +kernel
theorem jd_law_531 : decode code 531 = .ok (.aload_n 2, 1) := by decide +kernel
theorem jd_law_532 : decode code 532 = .ok (.invokevirtual 72, 3) := by decide +kernel
theorem jd_law_535 : decode code 535 = .ok (.if_icmp .eq 493, 3) := by decide +kernel
theorem jd_law_538 : decode code 538 = .ok (.iconst 0, 1) := by decide +kernel
theorem jd_law_539 : decode code 539 = .ok (.ireturn, 1) := by decide +kernel
theorem jd_law_540 : decode code 540 = .ok (.aload_n 1, 1) := by decide +kernel
theorem jd_law_541 : decode code 541 = .ok (.aload_n 0, 1) := by decide +kernel
theorem jd_law_542 : decode code 542 = .ok (.iload_n 3, 1) := by decide +kernel
theorem jd_law_543 : decode code 543 = .ok (.iconst 1, 1) := by decide +kernel
theorem jd_law_544 : decode code 544 = .ok (.iadd, 1) := by decide +kernel
theorem jd_law_545 : decode code 545 = .ok (.iaload, 1) := by decide +kernel
theorem jd_law_546 : decode code 546 = .ok (.aload_n 0, 1) := by decide +kernel
theorem jd_law_547 : decode code 547 = .ok (.iload_n 3, 1) := by decide +kernel
theorem jd_law_548 : decode code 548 = .ok (.iconst 2, 1) := by decide +kernel
theorem jd_law_549 : decode code 549 = .ok (.iadd, 1) := by decide +kernel
theorem jd_law_550 : decode code 550 = .ok (.iaload, 1) := by decide +kernel
theorem jd_law_551 : decode code 551 = .ok (.aload_n 0, 1) := by decide +kernel
theorem jd_law_552 : decode code 552 = .ok (.iload_n 3, 1) := by decide +kernel
theorem jd_law_553 : decode code 553 = .ok (.iconst 3, 1) := by decide +kernel
theorem jd_law_554 : decode code 554 = .ok (.iadd, 1) := by decide +kernel
theorem jd_law_555 : decode code 555 = .ok (.iaload, 1) := by decide +kernel
theorem jd_law_556 : decode code 556 = .ok (.invokevirtual 73, 3) := by decide +kernel
theorem jd_law_559 : decode code 559 = .ok (.aload_n 2, 1) := by decide +kernel
theorem jd_law_560 : decode code 560 = .ok (.aload_n 0, 1) := by decide +kernel
theorem jd_law_561 : decode code 561 = .ok (.iload_n 3, 1) := by decide +kernel
theorem jd_law_562 : decode code 562 = .ok (.iconst 1, 1) := by decide +kernel
theorem jd_law_563 : decode code 563 = .ok (.iadd, 1) := by decide +kernel
theorem jd_law_564 : decode code 564 = .ok (.iaload, 1) := by decide +kernel
theorem jd_law_565 : decode code 565 = .ok (.aload_n 0, 1) := by decide +kernel
theorem jd_law_566 : decode code 566 = .ok (.iload_n 3, 1) := by decide +kernel
theorem jd_law_567 : decode code 567 = .ok (.iconst 2, 1) := by decide +kernel
theorem jd_law_568 : decode code 568 = .ok (.iadd, 1) := by decide +kernel
theorem jd_law_569 : decode code 569 = .ok (.iaload, 1) := by decide +kernel
theorem jd_law_570 : decode code 570 = .ok (.aload_n 0, 1) := by decide +kernel
theorem jd_law_571 : decode code 571 = .ok (.iload_n 3, 1) := by decide +kernel
theorem jd_law_572 : decode code 572 = .ok (.iconst 3, 1) := by decide +kernel
theorem jd_law_573 : decode code 573 = .ok (.iadd, 1) := by decide +kernel
theorem jd_law_574 : decode code 574 = .ok (.iaload, 1) := by decide +kernel
theorem jd_law_575 : decode code 575 = .ok (.invokevirtual 76, 3) := by decide +kernel
theorem jd_law_578 : decode code 578 = .ok (.if_icmp .eq 450, 3) := by decide +kernel
theorem jd_law_581 : decode code 581 = .ok (.iconst 0, 1) := by decide +kernel
theorem jd_law_582 : decode code 582 = .ok (.ireturn, 1) := by decide +kernel
theorem jd_law_583 : decode code 583 = .ok (.aload_n 1, 1) := by decide +kernel
theorem jd_law_584 : decode code 584 = .ok (.aload_n 0, 1) := by decide +kernel
theorem jd_law_585 : decode code 585 = .ok (.iload_n 3, 1) := by decide +kernel
theorem jd_law_586 : decode code 586 = .ok (.iconst 1, 1) := by decide +kernel
theorem jd_law_587 : decode code 587 = .ok (.iadd, 1) := by decide +kernel
theorem jd_law_588 : decode code 588 = .ok (.iaload, 1) := by decide +kernel
theorem jd_law_589 : decode code 589 = .ok (.invokevirtual 77, 3) := by decide +kernel
theorem jd_law_592 : decode code 592 = .ok (.aload_n 2, 1) := by decide +kernel
theorem jd_law_593 : decode code 593 = .ok (.aload_n 0, 1) := by decide +kernel
theorem jd_law_594 : decode code 594 = .ok (.iload_n 3, 1) := by decide +kernel
theorem jd_law_595 : decode code 595 = .ok (.iconst 1, 1) := by decide +kernel
theorem jd_law_596 : decode code 596 = .ok (.iadd, 1) := by decide +kernel
theorem jd_law_597 : decode code 597 = .ok (.iaload, 1) := by decide +kernel
