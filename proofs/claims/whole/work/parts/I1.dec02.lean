/-! the law, instruction by instruction -/
theorem d_law_460 : decode code 460 = .ok (.aload_n 0, 1) := by decide +kernel
theorem d_law_461 : decode code 461 = .ok (.iload 4, 2) := by decide +kernel
theorem d_law_463 : decode code 463 = .ok (.iconst 1, 1) := by decide +kernel
theorem d_law_464 : decode code 464 = .ok (.iadd, 1) := by decide +kernel
theorem d_law_465 : decode code 465 = .ok (.iaload, 1) := by decide +kernel
theorem d_law_466 : decode code 466 = .ok (.invokevirtual 60, 3) := by decide +kernel
theorem d_law_469 : decode code 469 = .ok (.aload_n 2, 1) := by decide +kernel
theorem d_law_470 : decode code 470 = .ok (.aload_n 0, 1) := by decide +kernel
theorem d_law_471 : decode code 471 = .ok (.iload 4, 2) := by decide +kernel
theorem d_law_473 : decode code 473 = .ok (.iconst 1, 1) := by decide +kernel
theorem d_law_474 : decode code 474 = .ok (.iadd, 1) := by decide +kernel
theorem d_law_475 : decode code 475 = .ok (.iaload, 1) := by decide +kernel
theorem d_law_476 : decode code 476 = .ok (.invokevirtual 64, 3) := by decide +kernel
theorem d_law_479 : decode code 479 = .ok (.lcmp, 1) := by decide +kernel
theorem d_law_480 : decode code 480 = .ok (.ifCond .eq 828, 3) := by decide +kernel
theorem d_law_483 : decode code 483 = .ok (.iconst 0, 1) := by decide +kernel
theorem d_law_484 : decode code 484 = .ok (.ireturn, 1) := by decide +kernel
theorem d_law_485 : decode code 485 = .ok (.aload_n 1, 1) := by decide +kernel
theorem d_law_486 : decode code 486 = .ok (.aload_n 0, 1) := by decide +kernel
theorem d_law_487 : decode code 487 = .ok (.iload 4, 2) := by decide +kernel
theorem d_law_489 : decode code 489 = .ok (.iconst 1, 1) := by decide +kernel
theorem d_law_490 : decode code 490 = .ok (.iadd, 1) := by decide +kernel
theorem d_law_491 : decode code 491 = .ok (.iaload, 1) := by decide +kernel
theorem d_law_492 : decode code 492 = .ok (.aload_n 0, 1) := by decide +kernel
theorem d_law_493 : decode code 493 = .ok (.iload 4, 2) := by decide +kernel
theorem d_law_495 : decode code 495 = .ok (.iconst 2, 1) := by decide +kernel
theorem d_law_496 : decode code 496 = .ok (.iadd, 1) := by decide +kernel
theorem d_law_497 : decode code 497 = .ok (.iaload, 1) := by decide +kernel
theorem d_law_498 : decode code 498 = .ok (.invokevirtual 65, 3) := by decide +kernel
theorem d_law_501 : decode code 501 = .ok (.aload_n 2, 1) := by decide +kernel
theorem d_law_502 : decode code 502 = .ok (.aload_n 0, 1) := by decide +kernel
theorem d_law_503 : decode code 503 = .ok (.iload 4, 2) := by decide +kernel
theorem d_law_505 : decode code 505 = .ok (.iconst 1, 1) := by decide +kernel
theorem d_law_506 : decode code 506 = .ok (.iadd, 1) := by decide +kernel
theorem d_law_507 : decode code 507 = .ok (.iaload, 1) := by decide +kernel
theorem d_law_508 : decode code 508 = .ok (.aload_n 0, 1) := by decide +kernel
theorem d_law_509 : decode code 509 = .ok (.iload 4, 2) := by decide +kernel
theorem d_law_511 : decode code 511 = .ok (.iconst 2, 1) := by decide +kernel
theorem d_law_512 : decode code 512 = .ok (.iadd, 1) := by decide +kernel
theorem d_law_513 : decode code 513 = .ok (.iaload, 1) := by decide +kernel
theorem d_law_514 : decode code 514 = .ok (.invokevirtual 68, 3) := by decide +kernel
theorem d_law_517 : decode code 517 = .ok (.if_icmp .eq 791, 3) := by decide +kernel
theorem d_law_520 : decode code 520 = .ok (.iconst 0, 1) := by decide +kernel
theorem d_law_521 : decode code 521 = .ok (.ireturn, 1) := by decide +kernel
theorem d_law_522 : decode code 522 = .ok (.aload_n 1, 1) := by decide +kernel
theorem d_law_523 : decode code 523 = .ok (.aload_n 0, 1) := by decide +kernel
theorem d_law_524 : decode code 524 = .ok (.iload 4, 2) := by decide +kernel
theorem d_law_526 : decode code 526 = .ok (.iconst 1, 1) := by decide +kernel
theorem d_law_527 : decode code 527 = .ok (.iadd, 1) := by decide +kernel
theorem d_law_528 : decode code 528 = .ok (.iaload, 1) := by decide +kernel
theorem d_law_529 : decode code 529 = .ok (.aload_n 0, 1) := by decide +kernel
theorem d_law_530 : decode code 530 = .ok (.iload 4, 2) := by decide +kernel
theorem d_law_532 : decode code 532 = .ok (.iconst 2, 1) := by decide +kernel
theorem d_law_533 : decode code 533 = .ok (.iadd, 1) := by decide +kernel
theorem d_law_534 : decode code 534 = .ok (.iaload, 1) := by decide +kernel
theorem d_law_535 : decode code 535 = .ok (.aload_n 0, 1) := by decide +kernel
theorem d_law_536 : decode code 536 = .ok (.iload 4, 2) := by decide +kernel
theorem d_law_538 : decode code 538 = .ok (.iconst 3, 1) := by decide +kernel
theorem d_law_539 : decode code 539 = .ok (.iadd, 1) := by decide +kernel
theorem d_law_540 : decode code 540 = .ok (.iaload, 1) := by decide +kernel
theorem d_law_541 : decode code 541 = .ok (.invokevirtual 69, 3) := by decide +kernel
theorem d_law_544 : decode code 544 = .ok (.aload_n 2, 1) := by decide +kernel
theorem d_law_545 : decode code 545 = .ok (.aload_n 0, 1) := by decide +kernel
theorem d_law_546 : decode code 546 = .ok (.iload 4, 2) := by decide +kernel
theorem d_law_548 : decode code 548 = .ok (.iconst 1, 1) := by decide +kernel
theorem d_law_549 : decode code 549 = .ok (.iadd, 1) := by decide +kernel
theorem d_law_550 : decode code 550 = .ok (.iaload, 1) := by decide +kernel
theorem d_law_551 : decode code 551 = .ok (.aload_n 0, 1) := by decide +kernel
theorem d_law_552 : decode code 552 = .ok (.iload 4, 2) := by decide +kernel
theorem d_law_554 : decode code 554 = .ok (.iconst 2, 1) := by decide +kernel
theorem d_law_555 : decode code 555 = .ok (.iadd, 1) := by decide +kernel
theorem d_law_556 : decode code 556 = .ok (.iaload, 1) := by decide +kernel
theorem d_law_557 : decode code 557 = .ok (.aload_n 0, 1) := by decide +kernel
theorem d_law_558 : decode code 558 = .ok (.iload 4, 2) := by decide +kernel
theorem d_law_560 : decode code 560 = .ok (.iconst 3, 1) := by decide +kernel
theorem d_law_561 : decode code 561 = .ok (.iadd, 1) := by decide +kernel
theorem d_law_562 : decode code 562 = .ok (.iaload, 1) := by decide +kernel
theorem d_law_563 : decode code 563 = .ok (.invokevirtual 73, 3) := by decide +kernel
theorem d_law_566 : decode code 566 = .ok (.lcmp, 1) := by decide +kernel
theorem d_law_567 : decode code 567 = .ok (.ifCond .eq 741, 3) := by decide +kernel
theorem d_law_570 : decode code 570 = .ok (.iconst 0, 1) := by decide +kernel
theorem d_law_571 : decode code 571 = .ok (.ireturn, 1) := by decide +kernel
theorem d_law_572 : decode code 572 = .ok (.aload_n 1, 1) := by decide +kernel
theorem d_law_573 : decode code 573 = .ok (.invokevirtual 74, 3) := by decide +kernel
theorem d_law_576 : decode code 576 = .ok (.aload_n 2, 1) := by decide +kernel
theorem d_law_577 : decode code 577 = .ok (.invokevirtual 77, 3) := by decide +kernel
theorem d_law_580 : decode code 580 = .ok (.if_icmp .eq 728, 3) := by decide +kernel
theorem d_law_583 : decode code 583 = .ok (.iconst 0, 1) := by decide +kernel
theorem d_law_584 : decode code 584 = .ok (.ireturn, 1) := by decide +kernel
theorem d_law_585 : decode code 585 = .ok (.aload_n 1, 1) := by decide +kernel
theorem d_law_586 : decode code 586 = .ok (.aload_n 0, 1) := by decide +kernel
theorem d_law_587 : decode code 587 = .ok (.iload 4, 2) := by decide +kernel
theorem d_law_589 : decode code 589 = .ok (.iconst 1, 1) := by decide +kernel
theorem d_law_590 : decode code 590 = .ok (.iadd, 1) := by decide +kernel
theorem d_law_591 : decode code 591 = .ok (.iaload, 1) := by decide +kernel
theorem d_law_592 : decode code 592 = .ok (.invokevirtual 78, 3) := by decide +kernel
theorem d_law_595 : decode code 595 = .ok (.aload_n 2, 1) := by decide +kernel
theorem d_law_596 : decode code 596 = .ok (.aload_n 0, 1) := by decide +kernel
theorem d_law_597 : decode code 597 = .ok (.iload 4, 2) := by decide +kernel
theorem d_law_599 : decode code 599 = .ok (.iconst 1, 1) := by decide +kernel
