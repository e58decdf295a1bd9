theorem dX7_init_466 : decode cX7_init 466 = .ok (.dup, 1) := by decide +kernel
theorem dX7_init_467 : decode cX7_init 467 = .ok (.bipush 32, 2) := by decide +kernel
theorem dX7_init_469 : decode cX7_init 469 = .ok (.iconst 0, 1) := by decide +kernel
theorem dX7_init_470 : decode cX7_init 470 = .ok (.iastore, 1) := by decide +kernel
theorem dX7_init_471 : decode cX7_init 471 = .ok (.putfield 58, 3) := by decide +kernel
theorem dX7_init_474 : decode cX7_init 474 = .ok (.aload_n 0, 1) := by decide +kernel
theorem dX7_init_475 : decode cX7_init 475 = .ok (.sipush 257, 3) := by decide +kernel
theorem dX7_init_478 : decode cX7_init 478 = .ok (.newarray .int, 2) := by decide +kernel
theorem dX7_init_480 : decode cX7_init 480 = .ok (.dup, 1) := by decide +kernel
theorem dX7_init_481 : decode cX7_init 481 = .ok (.iconst 0, 1) := by decide +kernel
theorem dX7_init_482 : decode cX7_init 482 = .ok (.iconst 0, 1) := by decide +kernel
theorem dX7_init_483 : decode cX7_init 483 = .ok (.iastore, 1) := by decide +kernel
theorem dX7_init_484 : decode cX7_init 484 = .ok (.dup, 1) := by decide +kernel
theorem dX7_init_485 : decode cX7_init 485 = .ok (.iconst 1, 1) := by decide +kernel
theorem dX7_init_486 : decode cX7_init 486 = .ok (.iconst (-1), 1) := by decide +kernel
theorem dX7_init_487 : decode cX7_init 487 = .ok (.iastore, 1) := by decide +kernel
theorem dX7_init_488 : decode cX7_init 488 = .ok (.dup, 1) := by decide +kernel
theorem dX7_init_489 : decode cX7_init 489 = .ok (.iconst 2, 1) := by decide +kernel
theorem dX7_init_490 : decode cX7_init 490 = .ok (.iconst (-1), 1) := by decide +kernel
theorem dX7_init_491 : decode cX7_init 491 = .ok (.iastore, 1) := by decide +kernel
theorem dX7_init_492 : decode cX7_init 492 = .ok (.dup, 1) := by decide +kernel
theorem dX7_init_493 : decode cX7_init 493 = .ok (.iconst 3, 1) := by decide +kernel
theorem dX7_init_494 : decode cX7_init 494 = .ok (.iconst (-1), 1) := by decide +kernel
theorem dX7_init_495 : decode cX7_init 495 = .ok (.iastore, 1) := by decide +kernel
theorem dX7_init_496 : decode cX7_init 496 = .ok (.dup, 1) := by decide +kernel
theorem dX7_init_497 : decode cX7_init 497 = .ok (.iconst 4, 1) := by decide +kernel
theorem dX7_init_498 : decode cX7_init 498 = .ok (.iconst (-1), 1) := by decide +kernel
theorem dX7_init_499 : decode cX7_init 499 = .ok (.iastore, 1) := by decide +kernel
theorem dX7_init_500 : decode cX7_init 500 = .ok (.dup, 1) := by decide +kernel
theorem dX7_init_501 : decode cX7_init 501 = .ok (.iconst 5, 1) := by decide +kernel
theorem dX7_init_502 : decode cX7_init 502 = .ok (.iconst (-1), 1) := by decide +kernel
theorem dX7_init_503 : decode cX7_init 503 = .ok (.iastore, 1) := by decide +kernel
theorem dX7_init_504 : decode cX7_init 504 = .ok (.dup, 1) := by decide +kernel
theorem dX7_init_505 : decode cX7_init 505 = .ok (.bipush 6, 2) := by decide +kernel
theorem dX7_init_507 : decode cX7_init 507 = .ok (.iconst (-1), 1) := by decide +kernel
theorem dX7_init_508 : decode cX7_init 508 = .ok (.iastore, 1) := by decide +kernel
theorem dX7_init_509 : decode cX7_init 509 = .ok (.dup, 1) := by decide +kernel
theorem dX7_init_510 : decode cX7_init 510 = .ok (.bipush 7, 2) := by decide +kernel
theorem dX7_init_512 : decode cX7_init 512 = .ok (.bipush (-2), 2) := by decide +kernel
theorem dX7_init_514 : decode cX7_init 514 = .ok (.iastore, 1) := by decide +kernel
theorem dX7_init_515 : decode cX7_init 515 = .ok (.dup, 1) := by decide +kernel
theorem dX7_init_516 : decode cX7_init 516 = .ok (.bipush 8, 2) := by decide +kernel
theorem dX7_init_518 : decode cX7_init 518 = .ok (.bipush (-2), 2) := by decide +kernel
theorem dX7_init_520 : decode cX7_init 520 = .ok (.iastore, 1) := by decide +kernel
theorem dX7_init_521 : decode cX7_init 521 = .ok (.dup, 1) := by decide +kernel
theorem dX7_init_522 : decode cX7_init 522 = .ok (.bipush 9, 2) := by decide +kernel
theorem dX7_init_524 : decode cX7_init 524 = .ok (.bipush (-2), 2) := by decide +kernel
theorem dX7_init_526 : decode cX7_init 526 = .ok (.iastore, 1) := by decide +kernel
theorem dX7_init_527 : decode cX7_init 527 = .ok (.dup, 1) := by decide +kernel
theorem dX7_init_528 : decode cX7_init 528 = .ok (.bipush 10, 2) := by decide +kernel
theorem dX7_init_530 : decode cX7_init 530 = .ok (.bipush (-2), 2) := by decide +kernel
theorem dX7_init_532 : decode cX7_init 532 = .ok (.iastore, 1) := by decide +kernel
theorem dX7_init_533 : decode cX7_init 533 = .ok (.dup, 1) := by decide +kernel
theorem dX7_init_534 : decode cX7_init 534 = .ok (.bipush 11, 2) := by decide +kernel
theorem dX7_init_536 : decode cX7_init 536 = .ok (.bipush (-3), 2) := by decide +kernel
theorem dX7_init_538 : decode cX7_init 538 = .ok (.iastore, 1) := by decide +kernel
theorem dX7_init_539 : decode cX7_init 539 = .ok (.dup, 1) := by decide +kernel
theorem dX7_init_540 : decode cX7_init 540 = .ok (.bipush 12, 2) := by decide +kernel
theorem dX7_init_542 : decode cX7_init 542 = .ok (.bipush (-3), 2) := by decide +kernel
theorem dX7_init_544 : decode cX7_init 544 = .ok (.iastore, 1) := by decide +kernel
theorem dX7_init_545 : decode cX7_init 545 = .ok (.dup, 1) := by decide +kernel
theorem dX7_init_546 : decode cX7_init 546 = .ok (.bipush 13, 2) := by decide +kernel
theorem dX7_init_548 : decode cX7_init 548 = .ok (.bipush (-4), 2) := by decide +kernel
theorem dX7_init_550 : decode cX7_init 550 = .ok (.iastore, 1) := by decide +kernel
theorem dX7_init_551 : decode cX7_init 551 = .ok (.dup, 1) := by decide +kernel
theorem dX7_init_552 : decode cX7_init 552 = .ok (.bipush 14, 2) := by decide +kernel
theorem dX7_init_554 : decode cX7_init 554 = .ok (.bipush (-4), 2) := by decide +kernel
theorem dX7_init_556 : decode cX7_init 556 = .ok (.iastore, 1) := by decide +kernel
theorem dX7_init_557 : decode cX7_init 557 = .ok (.dup, 1) := by decide +kernel
theorem dX7_init_558 : decode cX7_init 558 = .ok (.bipush 15, 2) := by decide +kernel
theorem dX7_init_560 : decode cX7_init 560 = .ok (.bipush (-5), 2) := by decide +kernel
theorem dX7_init_562 : decode cX7_init 562 = .ok (.iastore, 1) := by decide +kernel
theorem dX7_init_563 : decode cX7_init 563 = .ok (.dup, 1) := by decide +kernel
theorem dX7_init_564 : decode cX7_init 564 = .ok (.bipush 16, 2) := by decide +kernel
theorem dX7_init_566 : decode cX7_init 566 = .ok (.bipush (-5), 2) := by decide +kernel
theorem dX7_init_568 : decode cX7_init 568 = .ok (.iastore, 1) := by decide +kernel
theorem dX7_init_569 : decode cX7_init 569 = .ok (.dup, 1) := by decide +kernel
theorem dX7_init_570 : decode cX7_init 570 = .ok (.bipush 17, 2) := by decide +kernel
theorem dX7_init_572 : decode cX7_init 572 = .ok (.bipush (-6), 2) := by decide +kernel
theorem dX7_init_574 : decode cX7_init 574 = .ok (.iastore, 1) := by decide +kernel
theorem dX7_init_575 : decode cX7_init 575 = .ok (.dup, 1) := by decide +kernel
theorem dX7_init_576 : decode cX7_init 576 = .ok (.bipush 18, 2) := by decide +kernel
theorem dX7_init_578 : decode cX7_init 578 = .ok (.bipush (-7), 2) := by decide +kernel
theorem dX7_init_580 : decode cX7_init 580 = .ok (.iastore, 1) := by decide +kernel
theorem dX7_init_581 : decode cX7_init 581 = .ok (.dup, 1) := by decide +kernel
theorem dX7_init_582 : decode cX7_init 582 = .ok (.bipush 19, 2) := by decide +kernel
theorem dX7_init_584 : decode cX7_init 584 = .ok (.bipush (-7), 2) := by decide +kernel
theorem dX7_init_586 : decode cX7_init 586 = .ok (.iastore, 1) := by decide +kernel
theorem dX7_init_587 : decode cX7_init 587 = .ok (.dup, 1) := by decide +kernel
theorem dX7_init_588 : decode cX7_init 588 = .ok (.bipush 20, 2) := by decide +kernel
theorem dX7_init_590 : decode cX7_init 590 = .ok (.bipush (-8), 2) := by decide +kernel
theorem dX7_init_592 : decode cX7_init 592 = .ok (.iastore, 1) := by decide +kernel
theorem dX7_init_593 : decode cX7_init 593 = .ok (.dup, 1) := by decide +kernel
theorem dX7_init_594 : decode cX7_init 594 = .ok (.bipush 21, 2) := by decide +kernel
theorem dX7_init_596 : decode cX7_init 596 = .ok (.bipush (-9), 2) := by decide +kernel
theorem dX7_init_598 : decode cX7_init 598 = .ok (.iastore, 1) := by decide +kernel
theorem dX7_init_599 : decode cX7_init 599 = .ok (.dup, 1) := by decide +kernel
theorem dX7_init_600 : decode cX7_init 600 = .ok (.bipush 22, 2) := by decide +kernel
theorem dX7_init_602 : decode cX7_init 602 = .ok (.bipush (-10), 2) := by decide +kernel
theorem dX7_init_604 : decode cX7_init 604 = .ok (.iastore, 1) := by decide +kernel
theorem dX7_init_605 : decode cX7_init 605 = .ok (.dup, 1) := by decide +kernel
theorem dX7_init_606 : decode cX7_init 606 = .ok (.bipush 23, 2) := by decide +kernel
theorem dX7_init_608 : decode cX7_init 608 = .ok (.bipush (-11), 2) := by decide +kernel
theorem dX7_init_610 : decode cX7_init 610 = .ok (.iastore, 1) := by decide +kernel
theorem dX7_init_611 : decode cX7_init 611 = .ok (.dup, 1) := by decide +kernel
theorem dX7_init_612 : decode cX7_init 612 = .ok (.bipush 24, 2) := by decide +kernel
theorem dX7_init_614 : decode cX7_init 614 = .ok (.bipush (-13), 2) := by decide +kernel
theorem dX7_init_616 : decode cX7_init 616 = .ok (.iastore, 1) := by decide +kernel
theorem dX7_init_617 : decode cX7_init 617 = .ok (.dup, 1) := by decide +kernel
theorem dX7_init_618 : decode cX7_init 618 = .ok (.bipush 25, 2) := by decide +kernel
theorem dX7_init_620 : decode cX7_init 620 = .ok (.bipush (-14), 2) := by decide +kernel
theorem dX7_init_622 : decode cX7_init 622 = .ok (.iastore, 1) := by decide +kernel
theorem dX7_init_623 : decode cX7_init 623 = .ok (.dup, 1) := by decide +kernel
theorem dX7_init_624 : decode cX7_init 624 = .ok (.bipush 26, 2) := by decide +kernel
theorem dX7_init_626 : decode cX7_init 626 = .ok (.bipush (-16), 2) := by decide +kernel
theorem dX7_init_628 : decode cX7_init 628 = .ok (.iastore, 1) := by decide +kernel
theorem dX7_init_629 : decode cX7_init 629 = .ok (.dup, 1) := by decide +kernel
theorem dX7_init_630 : decode cX7_init 630 = .ok (.bipush 27, 2) := by decide +kernel
theorem dX7_init_632 : decode cX7_init 632 = .ok (.bipush (-17), 2) := by decide +kernel
theorem dX7_init_634 : decode cX7_init 634 = .ok (.iastore, 1) := by decide +kernel
theorem dX7_init_635 : decode cX7_init 635 = .ok (.dup, 1) := by decide +kernel
theorem dX7_init_636 : decode cX7_init 636 = .ok (.bipush 28, 2) := by decide +kernel
theorem dX7_init_638 : decode cX7_init 638 = .ok (.bipush (-19), 2) := by decide +kernel
theorem dX7_init_640 : decode cX7_init 640 = .ok (.iastore, 1) := by decide +kernel
theorem dX7_init_641 : decode cX7_init 641 = .ok (.dup, 1) := by decide +kernel
theorem dX7_init_642 : decode cX7_init 642 = .ok (.bipush 29, 2) := by decide +kernel
theorem dX7_init_644 : decode cX7_init 644 = .ok (.bipush (-21), 2) := by decide +kernel
theorem dX7_init_646 : decode cX7_init 646 = .ok (.iastore, 1) := by decide +kernel
theorem dX7_init_647 : decode cX7_init 647 = .ok (.dup, 1) := by decide +kernel
theorem dX7_init_648 : decode cX7_init 648 = .ok (.bipush 30, 2) := by decide +kernel
