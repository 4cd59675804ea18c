theorem d_Law_law_433 : decode b_Law_law 433 = .ok (.iaload, 1) := by decide +kernel
theorem d_Law_law_434 : decode b_Law_law 434 = .ok (.invokevirtual 65, 3) := by decide +kernel
theorem d_Law_law_437 : decode b_Law_law 437 = .ok (.aload_n 2, 1) := by decide +kernel
theorem d_Law_law_438 : decode b_Law_law 438 = .ok (.aload_n 0, 1) := by decide +kernel
theorem d_Law_law_439 : decode b_Law_law 439 = .ok (.iload_n 3, 1) := by decide +kernel
theorem d_Law_law_440 : decode b_Law_law 440 = .ok (.iconst 1, 1) := by decide +kernel
theorem d_Law_law_441 : decode b_Law_law 441 = .ok (.iadd, 1) := by decide +kernel
theorem d_Law_law_442 : decode b_Law_law 442 = .ok (.iaload, 1) := by decide +kernel
theorem d_Law_law_443 : decode b_Law_law 443 = .ok (.invokevirtual 69, 3) := by decide +kernel
theorem d_Law_law_446 : decode b_Law_law 446 = .ok (.if_icmp .eq 156, 3) := by decide +kernel
theorem d_Law_law_449 : decode b_Law_law 449 = .ok (.iconst 0, 1) := by decide +kernel
theorem d_Law_law_450 : decode b_Law_law 450 = .ok (.ireturn, 1) := by decide +kernel
theorem d_Law_law_451 : decode b_Law_law 451 = .ok (.aload_n 1, 1) := by decide +kernel
theorem d_Law_law_452 : decode b_Law_law 452 = .ok (.aload_n 0, 1) := by decide +kernel
theorem d_Law_law_453 : decode b_Law_law 453 = .ok (.iload_n 3, 1) := by decide +kernel
theorem d_Law_law_454 : decode b_Law_law 454 = .ok (.iconst 1, 1) := by decide +kernel
theorem d_Law_law_455 : decode b_Law_law 455 = .ok (.iadd, 1) := by decide +kernel
theorem d_Law_law_456 : decode b_Law_law 456 = .ok (.iaload, 1) := by decide +kernel
theorem d_Law_law_457 : decode b_Law_law 457 = .ok (.aload_n 0, 1) := by decide +kernel
theorem d_Law_law_458 : decode b_Law_law 458 = .ok (.iload_n 3, 1) := by decide +kernel
theorem d_Law_law_459 : decode b_Law_law 459 = .ok (.iconst 2, 1) := by decide +kernel
theorem d_Law_law_460 : decode b_Law_law 460 = .ok (.iadd, 1) := by decide +kernel
theorem d_Law_law_461 : decode b_Law_law 461 = .ok (.iaload, 1) := by decide +kernel
theorem d_Law_law_462 : decode b_Law_law 462 = .ok (.invokevirtual 70, 3) := by decide +kernel
theorem d_Law_law_465 : decode b_Law_law 465 = .ok (.aload_n 2, 1) := by decide +kernel
theorem d_Law_law_466 : decode b_Law_law 466 = .ok (.aload_n 0, 1) := by decide +kernel
theorem d_Law_law_467 : decode b_Law_law 467 = .ok (.iload_n 3, 1) := by decide +kernel
theorem d_Law_law_468 : decode b_Law_law 468 = .ok (.iconst 1, 1) := by decide +kernel
theorem d_Law_law_469 : decode b_Law_law 469 = .ok (.iadd, 1) := by decide +kernel
theorem d_Law_law_470 : decode b_Law_law 470 = .ok (.iaload, 1) := by decide +kernel
theorem d_Law_law_471 : decode b_Law_law 471 = .ok (.aload_n 0, 1) := by decide +kernel
theorem d_Law_law_472 : decode b_Law_law 472 = .ok (.iload_n 3, 1) := by decide +kernel
theorem d_Law_law_473 : decode b_Law_law 473 = .ok (.iconst 2, 1) := by decide +kernel
theorem d_Law_law_474 : decode b_Law_law 474 = .ok (.iadd, 1) := by decide +kernel
theorem d_Law_law_475 : decode b_Law_law 475 = .ok (.iaload, 1) := by decide +kernel
theorem d_Law_law_476 : decode b_Law_law 476 = .ok (.invokevirtual 73, 3) := by decide +kernel
theorem d_Law_law_479 : decode b_Law_law 479 = .ok (.if_icmp .eq 123, 3) := by decide +kernel
theorem d_Law_law_482 : decode b_Law_law 482 = .ok (.iconst 0, 1) := by decide +kernel
theorem d_Law_law_483 : decode b_Law_law 483 = .ok (.ireturn, 1) := by decide +kernel
theorem d_Law_law_484 : decode b_Law_law 484 = .ok (.aload_n 1, 1) := by decide +kernel
theorem d_Law_law_485 : decode b_Law_law 485 = .ok (.aload_n 0, 1) := by decide +kernel
theorem d_Law_law_486 : decode b_Law_law 486 = .ok (.iload_n 3, 1) := by decide +kernel
theorem d_Law_law_487 : decode b_Law_law 487 = .ok (.iconst 1, 1) := by decide +kernel
theorem d_Law_law_488 : decode b_Law_law 488 = .ok (.iadd, 1) := by decide +kernel
theorem d_Law_law_489 : decode b_Law_law 489 = .ok (.iaload, 1) := by decide +kernel
theorem d_Law_law_490 : decode b_Law_law 490 = .ok (.invokevirtual 74, 3) := by decide +kernel
theorem d_Law_law_493 : decode b_Law_law 493 = .ok (.aload_n 2, 1) := by decide +kernel
theorem d_Law_law_494 : decode b_Law_law 494 = .ok (.aload_n 0, 1) := by decide +kernel
theorem d_Law_law_495 : decode b_Law_law 495 = .ok (.iload_n 3, 1) := by decide +kernel
theorem d_Law_law_496 : decode b_Law_law 496 = .ok (.iconst 1, 1) := by decide +kernel
theorem d_Law_law_497 : decode b_Law_law 497 = .ok (.iadd, 1) := by decide +kernel
theorem d_Law_law_498 : decode b_Law_law 498 = .ok (.iaload, 1) := by decide +kernel
theorem d_Law_law_499 : decode b_Law_law 499 = .ok (.invokevirtual 77, 3) := by decide +kernel
theorem d_Law_law_502 : decode b_Law_law 502 = .ok (.if_icmp .eq 100, 3) := by decide +kernel
theorem d_Law_law_505 : decode b_Law_law 505 = .ok (.iconst 0, 1) := by decide +kernel
theorem d_Law_law_506 : decode b_Law_law 506 = .ok (.ireturn, 1) := by decide +kernel
theorem d_Law_law_507 : decode b_Law_law 507 = .ok (.aload_n 1, 1) := by decide +kernel
theorem d_Law_law_508 : decode b_Law_law 508 = .ok (.aload_n 0, 1) := by decide +kernel
theorem d_Law_law_509 : decode b_Law_law 509 = .ok (.iload_n 3, 1) := by decide +kernel
theorem d_Law_law_510 : decode b_Law_law 510 = .ok (.iconst 1, 1) := by decide +kernel
theorem d_Law_law_511 : decode b_Law_law 511 = .ok (.iadd, 1) := by decide +kernel
theorem d_Law_law_512 : decode b_Law_law 512 = .ok (.iaload, 1) := by decide +kernel
theorem d_Law_law_513 : decode b_Law_law 513 = .ok (.ifCond .eq 7, 3) := by decide +kernel
theorem d_Law_law_516 : decode b_Law_law 516 = .ok (.iconst 1, 1) := by decide +kernel
theorem d_Law_law_517 : decode b_Law_law 517 = .ok (.goto 4, 3) := by decide +kernel
theorem d_Law_law_520 : decode b_Law_law 520 = .ok (.iconst 0, 1) := by decide +kernel
theorem d_Law_law_521 : decode b_Law_law 521 = .ok (.invokevirtual 78, 3) := by decide +kernel
theorem d_Law_law_524 : decode b_Law_law 524 = .ok (.aload_n 2, 1) := by decide +kernel
theorem d_Law_law_525 : decode b_Law_law 525 = .ok (.aload_n 0, 1) := by decide +kernel
theorem d_Law_law_526 : decode b_Law_law 526 = .ok (.iload_n 3, 1) := by decide +kernel
theorem d_Law_law_527 : decode b_Law_law 527 = .ok (.iconst 1, 1) := by decide +kernel
theorem d_Law_law_528 : decode b_Law_law 528 = .ok (.iadd, 1) := by decide +kernel
theorem d_Law_law_529 : decode b_Law_law 529 = .ok (.iaload, 1) := by decide +kernel
theorem d_Law_law_530 : decode b_Law_law 530 = .ok (.ifCond .eq 7, 3) := by decide +kernel
theorem d_Law_law_533 : decode b_Law_law 533 = .ok (.iconst 1, 1) := by decide +kernel
theorem d_Law_law_534 : decode b_Law_law 534 = .ok (.goto 4, 3) := by decide +kernel
theorem d_Law_law_537 : decode b_Law_law 537 = .ok (.iconst 0, 1) := by decide +kernel
theorem d_Law_law_538 : decode b_Law_law 538 = .ok (.invokevirtual 82, 3) := by decide +kernel
theorem d_Law_law_541 : decode b_Law_law 541 = .ok (.if_icmp .eq 61, 3) := by decide +kernel
theorem d_Law_law_544 : decode b_Law_law 544 = .ok (.iconst 0, 1) := by decide +kernel
theorem d_Law_law_545 : decode b_Law_law 545 = .ok (.ireturn, 1) := by decide +kernel
theorem d_Law_law_546 : decode b_Law_law 546 = .ok (.aload_n 1, 1) := by decide +kernel
theorem d_Law_law_547 : decode b_Law_law 547 = .ok (.aload_n 0, 1) := by decide +kernel
theorem d_Law_law_548 : decode b_Law_law 548 = .ok (.iload_n 3, 1) := by decide +kernel
theorem d_Law_law_549 : decode b_Law_law 549 = .ok (.iconst 1, 1) := by decide +kernel
theorem d_Law_law_550 : decode b_Law_law 550 = .ok (.iadd, 1) := by decide +kernel
theorem d_Law_law_551 : decode b_Law_law 551 = .ok (.iaload, 1) := by decide +kernel
theorem d_Law_law_552 : decode b_Law_law 552 = .ok (.invokevirtual 83, 3) := by decide +kernel
theorem d_Law_law_555 : decode b_Law_law 555 = .ok (.aload_n 2, 1) := by decide +kernel
theorem d_Law_law_556 : decode b_Law_law 556 = .ok (.aload_n 0, 1) := by decide +kernel
theorem d_Law_law_557 : decode b_Law_law 557 = .ok (.iload_n 3, 1) := by decide +kernel
theorem d_Law_law_558 : decode b_Law_law 558 = .ok (.iconst 1, 1) := by decide +kernel
theorem d_Law_law_559 : decode b_Law_law 559 = .ok (.iadd, 1) := by decide +kernel
theorem d_Law_law_560 : decode b_Law_law 560 = .ok (.iaload, 1) := by decide +kernel
theorem d_Law_law_561 : decode b_Law_law 561 = .ok (.invokevirtual 86, 3) := by decide +kernel
theorem d_Law_law_564 : decode b_Law_law 564 = .ok (.if_icmp .eq 38, 3) := by decide +kernel
theorem d_Law_law_567 : decode b_Law_law 567 = .ok (.iconst 0, 1) := by decide +kernel
theorem d_Law_law_568 : decode b_Law_law 568 = .ok (.ireturn, 1) := by decide +kernel
theorem d_Law_law_569 : decode b_Law_law 569 = .ok (.aload_n 1, 1) := by decide +kernel
theorem d_Law_law_570 : decode b_Law_law 570 = .ok (.aload_n 0, 1) := by decide +kernel
theorem d_Law_law_571 : decode b_Law_law 571 = .ok (.iload_n 3, 1) := by decide +kernel
theorem d_Law_law_572 : decode b_Law_law 572 = .ok (.iconst 1, 1) := by decide +kernel
theorem d_Law_law_573 : decode b_Law_law 573 = .ok (.iadd, 1) := by decide +kernel
theorem d_Law_law_574 : decode b_Law_law 574 = .ok (.iaload, 1) := by decide +kernel
theorem d_Law_law_575 : decode b_Law_law 575 = .ok (.aload_n 0, 1) := by decide +kernel
theorem d_Law_law_576 : decode b_Law_law 576 = .ok (.iload_n 3, 1) := by decide +kernel
theorem d_Law_law_577 : decode b_Law_law 577 = .ok (.iconst 2, 1) := by decide +kernel
theorem d_Law_law_578 : decode b_Law_law 578 = .ok (.iadd, 1) := by decide +kernel
theorem d_Law_law_579 : decode b_Law_law 579 = .ok (.iaload, 1) := by decide +kernel
theorem d_Law_law_580 : decode b_Law_law 580 = .ok (.invokevirtual 87, 3) := by decide +kernel
theorem d_Law_law_583 : decode b_Law_law 583 = .ok (.aload_n 2, 1) := by decide +kernel
theorem d_Law_law_584 : decode b_Law_law 584 = .ok (.aload_n 0, 1) := by decide +kernel
theorem d_Law_law_585 : decode b_Law_law 585 = .ok (.iload_n 3, 1) := by decide +kernel
theorem d_Law_law_586 : decode b_Law_law 586 = .ok (.iconst 1, 1) := by decide +kernel
theorem d_Law_law_587 : decode b_Law_law 587 = .ok (.iadd, 1) := by decide +kernel
theorem d_Law_law_588 : decode b_Law_law 588 = .ok (.iaload, 1) := by decide +kernel
theorem d_Law_law_589 : decode b_Law_law 589 = .ok (.aload_n 0, 1) := by decide +kernel
theorem d_Law_law_590 : decode b_Law_law 590 = .ok (.iload_n 3, 1) := by decide +kernel
theorem d_Law_law_591 : decode b_Law_law 591 = .ok (.iconst 2, 1) := by decide +kernel
theorem d_Law_law_592 : decode b_Law_law 592 = .ok (.iadd, 1) := by decide +kernel
theorem d_Law_law_593 : decode b_Law_law 593 = .ok (.iaload, 1) := by decide +kernel
theorem d_Law_law_594 : decode b_Law_law 594 = .ok (.invokevirtual 90, 3) := by decide +kernel
theorem d_Law_law_597 : decode b_Law_law 597 = .ok (.if_icmp .eq 5, 3) := by decide +kernel
theorem d_Law_law_600 : decode b_Law_law 600 = .ok (.iconst 0, 1) := by decide +kernel
theorem d_Law_law_601 : decode b_Law_law 601 = .ok (.ireturn, 1) := by decide +kernel
theorem d_Law_law_602 : decode b_Law_law 602 = .ok (.iinc 3 4, 3) := by decide +kernel
theorem d_Law_law_605 : decode b_Law_law 605 = .ok (.goto (-575), 3) := by decide +kernel
theorem d_Law_law_608 : decode b_Law_law 608 = .ok (.iconst 1, 1) := by decide +kernel
theorem d_Law_law_609 : decode b_Law_law 609 = .ok (.ireturn, 1) := by decide +kernel
