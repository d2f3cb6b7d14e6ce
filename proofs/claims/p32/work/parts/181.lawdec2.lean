theorem dl_454 : decode code 454 = .ok (.iaload, 1) := by decide +kernel
theorem dl_455 : decode code 455 = .ok (.invokevirtual 51, 3) := by decide +kernel
theorem dl_458 : decode code 458 = .ok (.pop, 1) := by decide +kernel
theorem dl_459 : decode code 459 = .ok (.goto 766, 3) := by decide +kernel
theorem dl_462 : decode code 462 = .ok (.aload_n 1, 1) := by decide +kernel
theorem dl_463 : decode code 463 = .ok (.aload_n 0, 1) := by decide +kernel
theorem dl_464 : decode code 464 = .ok (.iload_n 3, 1) := by decide +kernel
theorem dl_465 : decode code 465 = .ok (.iconst 1, 1) := by decide +kernel
theorem dl_466 : decode code 466 = .ok (.iadd, 1) := by decide +kernel
theorem dl_467 : decode code 467 = .ok (.iaload, 1) := by decide +kernel
theorem dl_468 : decode code 468 = .ok (.ifCond .eq 7, 3) := by decide +kernel
theorem dl_471 : decode code 471 = .ok (.iconst 1, 1) := by decide +kernel
theorem dl_472 : decode code 472 = .ok (.goto 4, 3) := by decide +kernel
theorem dl_475 : decode code 475 = .ok (.iconst 0, 1) := by decide +kernel
theorem dl_476 : decode code 476 = .ok (.aload_n 0, 1) := by decide +kernel
theorem dl_477 : decode code 477 = .ok (.iload_n 3, 1) := by decide +kernel
theorem dl_478 : decode code 478 = .ok (.iconst 2, 1) := by decide +kernel
theorem dl_479 : decode code 479 = .ok (.iadd, 1) := by decide +kernel
theorem dl_480 : decode code 480 = .ok (.iaload, 1) := by decide +kernel
theorem dl_481 : decode code 481 = .ok (.invokevirtual 52, 3) := by decide +kernel
theorem dl_484 : decode code 484 = .ok (.pop, 1) := by decide +kernel
theorem dl_485 : decode code 485 = .ok (.aload_n 2, 1) := by decide +kernel
theorem dl_486 : decode code 486 = .ok (.aload_n 0, 1) := by decide +kernel
theorem dl_487 : decode code 487 = .ok (.iload_n 3, 1) := by decide +kernel
theorem dl_488 : decode code 488 = .ok (.iconst 1, 1) := by decide +kernel
theorem dl_489 : decode code 489 = .ok (.iadd, 1) := by decide +kernel
theorem dl_490 : decode code 490 = .ok (.iaload, 1) := by decide +kernel
theorem dl_491 : decode code 491 = .ok (.ifCond .eq 7, 3) := by decide +kernel
theorem dl_494 : decode code 494 = .ok (.iconst 1, 1) := by decide +kernel
theorem dl_495 : decode code 495 = .ok (.goto 4, 3) := by decide +kernel
theorem dl_498 : decode code 498 = .ok (.iconst 0, 1) := by decide +kernel
theorem dl_499 : decode code 499 = .ok (.aload_n 0, 1) := by decide +kernel
theorem dl_500 : decode code 500 = .ok (.iload_n 3, 1) := by decide +kernel
theorem dl_501 : decode code 501 = .ok (.iconst 2, 1) := by decide +kernel
theorem dl_502 : decode code 502 = .ok (.iadd, 1) := by decide +kernel
theorem dl_503 : decode code 503 = .ok (.iaload, 1) := by decide +kernel
theorem dl_504 : decode code 504 = .ok (.invokevirtual 55, 3) := by decide +kernel
theorem dl_507 : decode code 507 = .ok (.pop, 1) := by decide +kernel
theorem dl_508 : decode code 508 = .ok (.goto 717, 3) := by decide +kernel
theorem dl_511 : decode code 511 = .ok (.aload_n 1, 1) := by decide +kernel
theorem dl_512 : decode code 512 = .ok (.aload_n 0, 1) := by decide +kernel
theorem dl_513 : decode code 513 = .ok (.iload_n 3, 1) := by decide +kernel
theorem dl_514 : decode code 514 = .ok (.iconst 1, 1) := by decide +kernel
theorem dl_515 : decode code 515 = .ok (.iadd, 1) := by decide +kernel
theorem dl_516 : decode code 516 = .ok (.iaload, 1) := by decide +kernel
theorem dl_517 : decode code 517 = .ok (.ifCond .eq 7, 3) := by decide +kernel
theorem dl_520 : decode code 520 = .ok (.iconst 1, 1) := by decide +kernel
theorem dl_521 : decode code 521 = .ok (.goto 4, 3) := by decide +kernel
theorem dl_524 : decode code 524 = .ok (.iconst 0, 1) := by decide +kernel
theorem dl_525 : decode code 525 = .ok (.aload_n 0, 1) := by decide +kernel
theorem dl_526 : decode code 526 = .ok (.iload_n 3, 1) := by decide +kernel
theorem dl_527 : decode code 527 = .ok (.iconst 2, 1) := by decide +kernel
theorem dl_528 : decode code 528 = .ok (.iadd, 1) := by decide +kernel
theorem dl_529 : decode code 529 = .ok (.iaload, 1) := by decide +kernel
theorem dl_530 : decode code 530 = .ok (.invokevirtual 56, 3) := by decide +kernel
theorem dl_533 : decode code 533 = .ok (.pop, 1) := by decide +kernel
theorem dl_534 : decode code 534 = .ok (.aload_n 2, 1) := by decide +kernel
theorem dl_535 : decode code 535 = .ok (.aload_n 0, 1) := by decide +kernel
theorem dl_536 : decode code 536 = .ok (.iload_n 3, 1) := by decide +kernel
theorem dl_537 : decode code 537 = .ok (.iconst 1, 1) := by decide +kernel
theorem dl_538 : decode code 538 = .ok (.iadd, 1) := by decide +kernel
theorem dl_539 : decode code 539 = .ok (.iaload, 1) := by decide +kernel
theorem dl_540 : decode code 540 = .ok (.ifCond .eq 7, 3) := by decide +kernel
theorem dl_543 : decode code 543 = .ok (.iconst 1, 1) := by decide +kernel
theorem dl_544 : decode code 544 = .ok (.goto 4, 3) := by decide +kernel
theorem dl_547 : decode code 547 = .ok (.iconst 0, 1) := by decide +kernel
theorem dl_548 : decode code 548 = .ok (.aload_n 0, 1) := by decide +kernel
theorem dl_549 : decode code 549 = .ok (.iload_n 3, 1) := by decide +kernel
theorem dl_550 : decode code 550 = .ok (.iconst 2, 1) := by decide +kernel
theorem dl_551 : decode code 551 = .ok (.iadd, 1) := by decide +kernel
theorem dl_552 : decode code 552 = .ok (.iaload, 1) := by decide +kernel
theorem dl_553 : decode code 553 = .ok (.invokevirtual 59, 3) := by decide +kernel
theorem dl_556 : decode code 556 = .ok (.pop, 1) := by decide +kernel
theorem dl_557 : decode code 557 = .ok (.goto 668, 3) := by decide +kernel
theorem dl_560 : decode code 560 = .ok (.aload_n 1, 1) := by decide +kernel
theorem dl_561 : decode code 561 = .ok (.aload_n 0, 1) := by decide +kernel
theorem dl_562 : decode code 562 = .ok (.iload_n 3, 1) := by decide +kernel
theorem dl_563 : decode code 563 = .ok (.iconst 1, 1) := by decide +kernel
theorem dl_564 : decode code 564 = .ok (.iadd, 1) := by decide +kernel
theorem dl_565 : decode code 565 = .ok (.iaload, 1) := by decide +kernel
theorem dl_566 : decode code 566 = .ok (.aload_n 0, 1) := by decide +kernel
theorem dl_567 : decode code 567 = .ok (.iload_n 3, 1) := by decide +kernel
theorem dl_568 : decode code 568 = .ok (.iconst 2, 1) := by decide +kernel
theorem dl_569 : decode code 569 = .ok (.iadd, 1) := by decide +kernel
theorem dl_570 : decode code 570 = .ok (.iaload, 1) := by decide +kernel
theorem dl_571 : decode code 571 = .ok (.invokevirtual 60, 3) := by decide +kernel
theorem dl_574 : decode code 574 = .ok (.pop, 1) := by decide +kernel
theorem dl_575 : decode code 575 = .ok (.aload_n 2, 1) := by decide +kernel
theorem dl_576 : decode code 576 = .ok (.aload_n 0, 1) := by decide +kernel
theorem dl_577 : decode code 577 = .ok (.iload_n 3, 1) := by decide +kernel
theorem dl_578 : decode code 578 = .ok (.iconst 1, 1) := by decide +kernel
theorem dl_579 : decode code 579 = .ok (.iadd, 1) := by decide +kernel
theorem dl_580 : decode code 580 = .ok (.iaload, 1) := by decide +kernel
theorem dl_581 : decode code 581 = .ok (.aload_n 0, 1) := by decide +kernel
theorem dl_582 : decode code 582 = .ok (.iload_n 3, 1) := by decide +kernel
theorem dl_583 : decode code 583 = .ok (.iconst 2, 1) := by decide +kernel
theorem dl_584 : decode code 584 = .ok (.iadd, 1) := by decide +kernel
theorem dl_585 : decode code 585 = .ok (.iaload, 1) := by decide +kernel
theorem dl_586 : decode code 586 = .ok (.invokevirtual 63, 3) := by decide +kernel
theorem dl_589 : decode code 589 = .ok (.pop, 1) := by decide +kernel
theorem dl_590 : decode code 590 = .ok (.goto 635, 3) := by decide +kernel
theorem dl_593 : decode code 593 = .ok (.aload_n 1, 1) := by decide +kernel
theorem dl_594 : decode code 594 = .ok (.aload_n 0, 1) := by decide +kernel
theorem dl_595 : decode code 595 = .ok (.iload_n 3, 1) := by decide +kernel
theorem dl_596 : decode code 596 = .ok (.iconst 1, 1) := by decide +kernel
theorem dl_597 : decode code 597 = .ok (.iadd, 1) := by decide +kernel
theorem dl_598 : decode code 598 = .ok (.iaload, 1) := by decide +kernel
theorem dl_599 : decode code 599 = .ok (.aload_n 0, 1) := by decide +kernel
theorem dl_600 : decode code 600 = .ok (.iload_n 3, 1) := by decide +kernel
theorem dl_601 : decode code 601 = .ok (.iconst 2, 1) := by decide +kernel
