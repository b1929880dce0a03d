theorem dq_W_law_455 : decode code 455 = .ok (.aload_n 0, 1) := by decide +kernel
theorem dq_W_law_456 : decode code 456 = .ok (.iload_n 3, 1) := by decide +kernel
theorem dq_W_law_457 : decode code 457 = .ok (.iconst 1, 1) := by decide +kernel
theorem dq_W_law_458 : decode code 458 = .ok (.iadd, 1) := by decide +kernel
theorem dq_W_law_459 : decode code 459 = .ok (.iaload, 1) := by decide +kernel
theorem dq_W_law_460 : decode code 460 = .ok (.aload_n 0, 1) := by decide +kernel
theorem dq_W_law_461 : decode code 461 = .ok (.iload_n 3, 1) := by decide +kernel
theorem dq_W_law_462 : decode code 462 = .ok (.iconst 2, 1) := by decide +kernel
theorem dq_W_law_463 : decode code 463 = .ok (.iadd, 1) := by decide +kernel
theorem dq_W_law_464 : decode code 464 = .ok (.iaload, 1) := by decide +kernel
theorem dq_W_law_465 : decode code 465 = .ok (.aload_n 0, 1) := by decide +kernel
theorem dq_W_law_466 : decode code 466 = .ok (.iload_n 3, 1) := by decide +kernel
theorem dq_W_law_467 : decode code 467 = .ok (.iconst 3, 1) := by decide +kernel
theorem dq_W_law_468 : decode code 468 = .ok (.iadd, 1) := by decide +kernel
theorem dq_W_law_469 : decode code 469 = .ok (.iaload, 1) := by decide +kernel
theorem dq_W_law_470 : decode code 470 = .ok (.i2l, 1) := by decide +kernel
theorem dq_W_law_471 : decode code 471 = .ok (.bipush 32, 2) := by decide +kernel
theorem dq_W_law_473 : decode code 473 = .ok (.lshl, 1) := by decide +kernel
theorem dq_W_law_474 : decode code 474 = .ok (.aload_n 0, 1) := by decide +kernel
theorem dq_W_law_475 : decode code 475 = .ok (.iload_n 3, 1) := by decide +kernel
theorem dq_W_law_476 : decode code 476 = .ok (.iconst 4, 1) := by decide +kernel
theorem dq_W_law_477 : decode code 477 = .ok (.iadd, 1) := by decide +kernel
theorem dq_W_law_478 : decode code 478 = .ok (.iaload, 1) := by decide +kernel
theorem dq_W_law_479 : decode code 479 = .ok (.i2l, 1) := by decide +kernel
theorem dq_W_law_480 : decode code 480 = .ok (.ldc2_w 13, 3) := by decide +kernel
theorem dq_W_law_483 : decode code 483 = .ok (.land, 1) := by decide +kernel
theorem dq_W_law_484 : decode code 484 = .ok (.lor, 1) := by decide +kernel
theorem dq_W_law_485 : decode code 485 = .ok (.aload_n 0, 1) := by decide +kernel
theorem dq_W_law_486 : decode code 486 = .ok (.iload_n 3, 1) := by decide +kernel
theorem dq_W_law_487 : decode code 487 = .ok (.iconst 5, 1) := by decide +kernel
theorem dq_W_law_488 : decode code 488 = .ok (.iadd, 1) := by decide +kernel
theorem dq_W_law_489 : decode code 489 = .ok (.iaload, 1) := by decide +kernel
theorem dq_W_law_490 : decode code 490 = .ok (.i2l, 1) := by decide +kernel
theorem dq_W_law_491 : decode code 491 = .ok (.bipush 32, 2) := by decide +kernel
theorem dq_W_law_493 : decode code 493 = .ok (.lshl, 1) := by decide +kernel
theorem dq_W_law_494 : decode code 494 = .ok (.aload_n 0, 1) := by decide +kernel
theorem dq_W_law_495 : decode code 495 = .ok (.iload_n 3, 1) := by decide +kernel
theorem dq_W_law_496 : decode code 496 = .ok (.bipush 6, 2) := by decide +kernel
theorem dq_W_law_498 : decode code 498 = .ok (.iadd, 1) := by decide +kernel
theorem dq_W_law_499 : decode code 499 = .ok (.iaload, 1) := by decide +kernel
theorem dq_W_law_500 : decode code 500 = .ok (.i2l, 1) := by decide +kernel
theorem dq_W_law_501 : decode code 501 = .ok (.ldc2_w 13, 3) := by decide +kernel
theorem dq_W_law_504 : decode code 504 = .ok (.land, 1) := by decide +kernel
theorem dq_W_law_505 : decode code 505 = .ok (.lor, 1) := by decide +kernel
theorem dq_W_law_506 : decode code 506 = .ok (.invokevirtual 47, 3) := by decide +kernel
theorem dq_W_law_509 : decode code 509 = .ok (.lcmp, 1) := by decide +kernel
theorem dq_W_law_510 : decode code 510 = .ok (.ifCond .eq 1244, 3) := by decide +kernel
theorem dq_W_law_513 : decode code 513 = .ok (.iconst 0, 1) := by decide +kernel
theorem dq_W_law_514 : decode code 514 = .ok (.ireturn, 1) := by decide +kernel
theorem dq_W_law_515 : decode code 515 = .ok (.aload_n 1, 1) := by decide +kernel
theorem dq_W_law_516 : decode code 516 = .ok (.aload_n 0, 1) := by decide +kernel
theorem dq_W_law_517 : decode code 517 = .ok (.iload_n 3, 1) := by decide +kernel
theorem dq_W_law_518 : decode code 518 = .ok (.iconst 1, 1) := by decide +kernel
theorem dq_W_law_519 : decode code 519 = .ok (.iadd, 1) := by decide +kernel
theorem dq_W_law_520 : decode code 520 = .ok (.iaload, 1) := by decide +kernel
theorem dq_W_law_521 : decode code 521 = .ok (.aload_n 0, 1) := by decide +kernel
theorem dq_W_law_522 : decode code 522 = .ok (.iload_n 3, 1) := by decide +kernel
theorem dq_W_law_523 : decode code 523 = .ok (.iconst 2, 1) := by decide +kernel
theorem dq_W_law_524 : decode code 524 = .ok (.iadd, 1) := by decide +kernel
theorem dq_W_law_525 : decode code 525 = .ok (.iaload, 1) := by decide +kernel
theorem dq_W_law_526 : decode code 526 = .ok (.aload_n 0, 1) := by decide +kernel
theorem dq_W_law_527 : decode code 527 = .ok (.iload_n 3, 1) := by decide +kernel
theorem dq_W_law_528 : decode code 528 = .ok (.iconst 3, 1) := by decide +kernel
theorem dq_W_law_529 : decode code 529 = .ok (.iadd, 1) := by decide +kernel
theorem dq_W_law_530 : decode code 530 = .ok (.iaload, 1) := by decide +kernel
theorem dq_W_law_531 : decode code 531 = .ok (.i2l, 1) := by decide +kernel
theorem dq_W_law_532 : decode code 532 = .ok (.bipush 32, 2) := by decide +kernel
theorem dq_W_law_534 : decode code 534 = .ok (.lshl, 1) := by decide +kernel
theorem dq_W_law_535 : decode code 535 = .ok (.aload_n 0, 1) := by decide +kernel
theorem dq_W_law_536 : decode code 536 = .ok (.iload_n 3, 1) := by decide +kernel
theorem dq_W_law_537 : decode code 537 = .ok (.iconst 4, 1) := by decide +kernel
theorem dq_W_law_538 : decode code 538 = .ok (.iadd, 1) := by decide +kernel
theorem dq_W_law_539 : decode code 539 = .ok (.iaload, 1) := by decide +kernel
theorem dq_W_law_540 : decode code 540 = .ok (.i2l, 1) := by decide +kernel
theorem dq_W_law_541 : decode code 541 = .ok (.ldc2_w 13, 3) := by decide +kernel
theorem dq_W_law_544 : decode code 544 = .ok (.land, 1) := by decide +kernel
theorem dq_W_law_545 : decode code 545 = .ok (.lor, 1) := by decide +kernel
theorem dq_W_law_546 : decode code 546 = .ok (.invokevirtual 48, 3) := by decide +kernel
theorem dq_W_law_549 : decode code 549 = .ok (.aload_n 2, 1) := by decide +kernel
theorem dq_W_law_550 : decode code 550 = .ok (.aload_n 0, 1) := by decide +kernel
theorem dq_W_law_551 : decode code 551 = .ok (.iload_n 3, 1) := by decide +kernel
theorem dq_W_law_552 : decode code 552 = .ok (.iconst 1, 1) := by decide +kernel
theorem dq_W_law_553 : decode code 553 = .ok (.iadd, 1) := by decide +kernel
theorem dq_W_law_554 : decode code 554 = .ok (.iaload, 1) := by decide +kernel
theorem dq_W_law_555 : decode code 555 = .ok (.aload_n 0, 1) := by decide +kernel
theorem dq_W_law_556 : decode code 556 = .ok (.iload_n 3, 1) := by decide +kernel
theorem dq_W_law_557 : decode code 557 = .ok (.iconst 2, 1) := by decide +kernel
theorem dq_W_law_558 : decode code 558 = .ok (.iadd, 1) := by decide +kernel
theorem dq_W_law_559 : decode code 559 = .ok (.iaload, 1) := by decide +kernel
theorem dq_W_law_560 : decode code 560 = .ok (.aload_n 0, 1) := by decide +kernel
theorem dq_W_law_561 : decode code 561 = .ok (.iload_n 3, 1) := by decide +kernel
theorem dq_W_law_562 : decode code 562 = .ok (.iconst 3, 1) := by decide +kernel
theorem dq_W_law_563 : decode code 563 = .ok (.iadd, 1) := by decide +kernel
theorem dq_W_law_564 : decode code 564 = .ok (.iaload, 1) := by decide +kernel
theorem dq_W_law_565 : decode code 565 = .ok (.i2l, 1) := by decide +kernel
theorem dq_W_law_566 : decode code 566 = .ok (.bipush 32, 2) := by decide +kernel
theorem dq_W_law_568 : decode code 568 = .ok (.lshl, 1) := by decide +kernel
theorem dq_W_law_569 : decode code 569 = .ok (.aload_n 0, 1) := by decide +kernel
theorem dq_W_law_570 : decode code 570 = .ok (.iload_n 3, 1) := by decide +kernel
theorem dq_W_law_571 : decode code 571 = .ok (.iconst 4, 1) := by decide +kernel
theorem dq_W_law_572 : decode code 572 = .ok (.iadd, 1) := by decide +kernel
theorem dq_W_law_573 : decode code 573 = .ok (.iaload, 1) := by decide +kernel
theorem dq_W_law_574 : decode code 574 = .ok (.i2l, 1) := by decide +kernel
theorem dq_W_law_575 : decode code 575 = .ok (.ldc2_w 13, 3) := by decide +kernel
theorem dq_W_law_578 : decode code 578 = .ok (.land, 1) := by decide +kernel
theorem dq_W_law_579 : decode code 579 = .ok (.lor, 1) := by decide +kernel
theorem dq_W_law_580 : decode code 580 = .ok (.invokevirtual 51, 3) := by decide +kernel
theorem dq_W_law_583 : decode code 583 = .ok (.lcmp, 1) := by decide +kernel
theorem dq_W_law_584 : decode code 584 = .ok (.ifCond .eq 1170, 3) := by decide +kernel
theorem dq_W_law_587 : decode code 587 = .ok (.iconst 0, 1) := by decide +kernel
theorem dq_W_law_588 : decode code 588 = .ok (.ireturn, 1) := by decide +kernel
theorem dq_W_law_589 : decode code 589 = .ok (.aload_n 1, 1) := by decide +kernel
theorem dq_W_law_590 : decode code 590 = .ok (.aload_n 0, 1) := by decide +kernel
theorem dq_W_law_591 : decode code 591 = .ok (.iload_n 3, 1) := by decide +kernel
theorem dq_W_law_592 : decode code 592 = .ok (.iconst 1, 1) := by decide +kernel
theorem dq_W_law_593 : decode code 593 = .ok (.iadd, 1) := by decide +kernel
theorem dq_W_law_594 : decode code 594 = .ok (.iaload, 1) := by decide +kernel
theorem dq_W_law_595 : decode code 595 = .ok (.aload_n 0, 1) := by decide +kernel
theorem dq_W_law_596 : decode code 596 = .ok (.iload_n 3, 1) := by decide +kernel
theorem dq_W_law_597 : decode code 597 = .ok (.iconst 2, 1) := by decide +kernel
theorem dq_W_law_598 : decode code 598 = .ok (.iadd, 1) := by decide +kernel
theorem dq_W_law_599 : decode code 599 = .ok (.iaload, 1) := by decide +kernel
theorem dq_W_law_600 : decode code 600 = .ok (.aload_n 0, 1) := by decide +kernel
theorem dq_W_law_601 : decode code 601 = .ok (.iload_n 3, 1) := by decide +kernel
theorem dq_W_law_602 : decode code 602 = .ok (.iconst 3, 1) := by decide +kernel
theorem dq_W_law_603 : decode code 603 = .ok (.iadd, 1) := by decide +kernel
theorem dq_W_law_604 : decode code 604 = .ok (.iaload, 1) := by decide +kernel
theorem dq_W_law_605 : decode code 605 = .ok (.aload_n 0, 1) := by decide +kernel
theorem dq_W_law_606 : decode code 606 = .ok (.iload_n 3, 1) := by decide +kernel
theorem dq_W_law_607 : decode code 607 = .ok (.iconst 4, 1) := by decide +kernel
theorem dq_W_law_608 : decode code 608 = .ok (.iadd, 1) := by decide +kernel
theorem dq_W_law_609 : decode code 609 = .ok (.iaload, 1) := by decide +kernel
theorem dq_W_law_610 : decode code 610 = .ok (.i2l, 1) := by decide +kernel
theorem dq_W_law_611 : decode code 611 = .ok (.bipush 32, 2) := by decide +kernel
theorem dq_W_law_613 : decode code 613 = .ok (.lshl, 1) := by decide +kernel
theorem dq_W_law_614 : decode code 614 = .ok (.aload_n 0, 1) := by decide +kernel
theorem dq_W_law_615 : decode code 615 = .ok (.iload_n 3, 1) := by decide +kernel
theorem dq_W_law_616 : decode code 616 = .ok (.iconst 5, 1) := by decide +kernel
theorem dq_W_law_617 : decode code 617 = .ok (.iadd, 1) := by decide +kernel
theorem dq_W_law_618 : decode code 618 = .ok (.iaload, 1) := by decide +kernel
theorem dq_W_law_619 : decode code 619 = .ok (.i2l, 1) := by decide +kernel
theorem dq_W_law_620 : decode code 620 = .ok (.ldc2_w 13, 3) := by decide +kernel
theorem dq_W_law_623 : decode code 623 = .ok (.land, 1) := by decide +kernel
theorem dq_W_law_624 : decode code 624 = .ok (.lor, 1) := by decide +kernel
theorem dq_W_law_625 : decode code 625 = .ok (.invokevirtual 52, 3) := by decide +kernel
theorem dq_W_law_628 : decode code 628 = .ok (.aload_n 2, 1) := by decide +kernel
theorem dq_W_law_629 : decode code 629 = .ok (.aload_n 0, 1) := by decide +kernel
theorem dq_W_law_630 : decode code 630 = .ok (.iload_n 3, 1) := by decide +kernel
theorem dq_W_law_631 : decode code 631 = .ok (.iconst 1, 1) := by decide +kernel
theorem dq_W_law_632 : decode code 632 = .ok (.iadd, 1) := by decide +kernel
theorem dq_W_law_633 : decode code 633 = .ok (.iaload, 1) := by decide +kernel
theorem dq_W_law_634 : decode code 634 = .ok (.aload_n 0, 1) := by decide +kernel
theorem dq_W_law_635 : decode code 635 = .ok (.iload_n 3, 1) := by decide +kernel
theorem dq_W_law_636 : decode code 636 = .ok (.iconst 2, 1) := by decide +kernel
theorem dq_W_law_637 : decode code 637 = .ok (.iadd, 1) := by decide +kernel
theorem dq_W_law_638 : decode code 638 = .ok (.iaload, 1) := by decide +kernel
theorem dq_W_law_639 : decode code 639 = .ok (.aload_n 0, 1) := by decide +kernel
theorem dq_W_law_640 : decode code 640 = .ok (.iload_n 3, 1) := by decide +kernel
theorem dq_W_law_641 : decode code 641 = .ok (.iconst 3, 1) := by decide +kernel
theorem dq_W_law_642 : decode code 642 = .ok (.iadd, 1) := by decide +kernel
theorem dq_W_law_643 : decode code 643 = .ok (.iaload, 1) := by decide +kernel
theorem dq_W_law_644 : decode code 644 = .ok (.aload_n 0, 1) := by decide +kernel
theorem dq_W_law_645 : decode code 645 = .ok (.iload_n 3, 1) := by decide +kernel
theorem dq_W_law_646 : decode code 646 = .ok (.iconst 4, 1) := by decide +kernel
theorem dq_W_law_647 : decode code 647 = .ok (.iadd, 1) := by decide +kernel
theorem dq_W_law_648 : decode code 648 = .ok (.iaload, 1) := by decide +kernel
theorem dq_W_law_649 : decode code 649 = .ok (.i2l, 1) := by decide +kernel
theorem dq_W_law_650 : decode code 650 = .ok (.bipush 32, 2) := by decide +kernel
theorem dq_W_law_652 : decode code 652 = .ok (.lshl, 1) := by decide +kernel
theorem dq_W_law_653 : decode code 653 = .ok (.aload_n 0, 1) := by decide +kernel
theorem dq_W_law_654 : decode code 654 = .ok (.iload_n 3, 1) := by decide +kernel
theorem dq_W_law_655 : decode code 655 = .ok (.iconst 5, 1) := by decide +kernel
theorem dq_W_law_656 : decode code 656 = .ok (.iadd, 1) := by decide +kernel
theorem dq_W_law_657 : decode code 657 = .ok (.iaload, 1) := by decide +kernel
theorem dq_W_law_658 : decode code 658 = .ok (.i2l, 1) := by decide +kernel
theorem dq_W_law_659 : decode code 659 = .ok (.ldc2_w 13, 3) := by decide +kernel
theorem dq_W_law_662 : decode code 662 = .ok (.land, 1) := by decide +kernel
theorem dq_W_law_663 : decode code 663 = .ok (.lor, 1) := by decide +kernel
theorem dq_W_law_664 : decode code 664 = .ok (.invokevirtual 56, 3) := by decide +kernel
theorem dq_W_law_667 : decode code 667 = .ok (.lcmp, 1) := by decide +kernel
theorem dq_W_law_668 : decode code 668 = .ok (.ifCond .eq 1086, 3) := by decide +kernel
theorem dq_W_law_671 : decode code 671 = .ok (.iconst 0, 1) := by decide +kernel
theorem dq_W_law_672 : decode code 672 = .ok (.ireturn, 1) := by decide +kernel
theorem dq_W_law_673 : decode code 673 = .ok (.aload_n 1, 1) := by decide +kernel
theorem dq_W_law_674 : decode code 674 = .ok (.aload_n 0, 1) := by decide +kernel
theorem dq_W_law_675 : decode code 675 = .ok (.iload_n 3, 1) := by decide +kernel
theorem dq_W_law_676 : decode code 676 = .ok (.iconst 1, 1) := by decide +kernel
theorem dq_W_law_677 : decode code 677 = .ok (.iadd, 1) := by decide +kernel
theorem dq_W_law_678 : decode code 678 = .ok (.iaload, 1) := by decide +kernel
theorem dq_W_law_679 : decode code 679 = .ok (.aload_n 0, 1) := by decide +kernel
theorem dq_W_law_680 : decode code 680 = .ok (.iload_n 3, 1) := by decide +kernel
theorem dq_W_law_681 : decode code 681 = .ok (.iconst 2, 1) := by decide +kernel
theorem dq_W_law_682 : decode code 682 = .ok (.iadd, 1) := by decide +kernel
theorem dq_W_law_683 : decode code 683 = .ok (.iaload, 1) := by decide +kernel
theorem dq_W_law_684 : decode code 684 = .ok (.aload_n 0, 1) := by decide +kernel
theorem dq_W_law_685 : decode code 685 = .ok (.iload_n 3, 1) := by decide +kernel
theorem dq_W_law_686 : decode code 686 = .ok (.iconst 3, 1) := by decide +kernel
theorem dq_W_law_687 : decode code 687 = .ok (.iadd, 1) := by decide +kernel
theorem dq_W_law_688 : decode code 688 = .ok (.iaload, 1) := by decide +kernel
theorem dq_W_law_689 : decode code 689 = .ok (.i2l, 1) := by decide +kernel
theorem dq_W_law_690 : decode code 690 = .ok (.bipush 32, 2) := by decide +kernel
theorem dq_W_law_692 : decode code 692 = .ok (.lshl, 1) := by decide +kernel
theorem dq_W_law_693 : decode code 693 = .ok (.aload_n 0, 1) := by decide +kernel
theorem dq_W_law_694 : decode code 694 = .ok (.iload_n 3, 1) := by decide +kernel
theorem dq_W_law_695 : decode code 695 = .ok (.iconst 4, 1) := by decide +kernel
theorem dq_W_law_696 : decode code 696 = .ok (.iadd, 1) := by decide +kernel
theorem dq_W_law_697 : decode code 697 = .ok (.iaload, 1) := by decide +kernel
theorem dq_W_law_698 : decode code 698 = .ok (.i2l, 1) := by decide +kernel
theorem dq_W_law_699 : decode code 699 = .ok (.ldc2_w 13, 3) := by decide +kernel
theorem dq_W_law_702 : decode code 702 = .ok (.land, 1) := by decide +kernel
theorem dq_W_law_703 : decode code 703 = .ok (.lor, 1) := by decide +kernel
theorem dq_W_law_704 : decode code 704 = .ok (.invokevirtual 57, 3) := by decide +kernel
theorem dq_W_law_707 : decode code 707 = .ok (.aload_n 2, 1) := by decide +kernel
theorem dq_W_law_708 : decode code 708 = .ok (.aload_n 0, 1) := by decide +kernel
theorem dq_W_law_709 : decode code 709 = .ok (.iload_n 3, 1) := by decide +kernel
theorem dq_W_law_710 : decode code 710 = .ok (.iconst 1, 1) := by decide +kernel
theorem dq_W_law_711 : decode code 711 = .ok (.iadd, 1) := by decide +kernel
theorem dq_W_law_712 : decode code 712 = .ok (.iaload, 1) := by decide +kernel
theorem dq_W_law_713 : decode code 713 = .ok (.aload_n 0, 1) := by decide +kernel
theorem dq_W_law_714 : decode code 714 = .ok (.iload_n 3, 1) := by decide +kernel
theorem dq_W_law_715 : decode code 715 = .ok (.iconst 2, 1) := by decide +kernel
theorem dq_W_law_716 : decode code 716 = .ok (.iadd, 1) := by decide +kernel
theorem dq_W_law_717 : decode code 717 = .ok (.iaload, 1) := by decide +kernel
theorem dq_W_law_718 : decode code 718 = .ok (.aload_n 0, 1) := by decide +kernel
theorem dq_W_law_719 : decode code 719 = .ok (.iload_n 3, 1) := by decide +kernel
theorem dq_W_law_720 : decode code 720 = .ok (.iconst 3, 1) := by decide +kernel
theorem dq_W_law_721 : decode code 721 = .ok (.iadd, 1) := by decide +kernel
theorem dq_W_law_722 : decode code 722 = .ok (.iaload, 1) := by decide +kernel
theorem dq_W_law_723 : decode code 723 = .ok (.i2l, 1) := by decide +kernel
theorem dq_W_law_724 : decode code 724 = .ok (.bipush 32, 2) := by decide +kernel
theorem dq_W_law_726 : decode code 726 = .ok (.lshl, 1) := by decide +kernel
theorem dq_W_law_727 : decode code 727 = .ok (.aload_n 0, 1) := by decide +kernel
theorem dq_W_law_728 : decode code 728 = .ok (.iload_n 3, 1) := by decide +kernel
theorem dq_W_law_729 : decode code 729 = .ok (.iconst 4, 1) := by decide +kernel
theorem dq_W_law_730 : decode code 730 = .ok (.iadd, 1) := by decide +kernel
theorem dq_W_law_731 : decode code 731 = .ok (.iaload, 1) := by decide +kernel
theorem dq_W_law_732 : decode code 732 = .ok (.i2l, 1) := by decide +kernel
theorem dq_W_law_733 : decode code 733 = .ok (.ldc2_w 13, 3) := by decide +kernel
theorem dq_W_law_736 : decode code 736 = .ok (.land, 1) := by decide +kernel
theorem dq_W_law_737 : decode code 737 = .ok (.lor, 1) := by decide +kernel
theorem dq_W_law_738 : decode code 738 = .ok (.invokevirtual 60, 3) := by decide +kernel
theorem dq_W_law_741 : decode code 741 = .ok (.lcmp, 1) := by decide +kernel
theorem dq_W_law_742 : decode code 742 = .ok (.ifCond .eq 1012, 3) := by decide +kernel
theorem dq_W_law_745 : decode code 745 = .ok (.iconst 0, 1) := by decide +kernel
theorem dq_W_law_746 : decode code 746 = .ok (.ireturn, 1) := by decide +kernel
theorem dq_W_law_747 : decode code 747 = .ok (.aload_n 1, 1) := by decide +kernel
theorem dq_W_law_748 : decode code 748 = .ok (.aload_n 0, 1) := by decide +kernel
theorem dq_W_law_749 : decode code 749 = .ok (.iload_n 3, 1) := by decide +kernel
theorem dq_W_law_750 : decode code 750 = .ok (.iconst 1, 1) := by decide +kernel
theorem dq_W_law_751 : decode code 751 = .ok (.iadd, 1) := by decide +kernel
theorem dq_W_law_752 : decode code 752 = .ok (.iaload, 1) := by decide +kernel
theorem dq_W_law_753 : decode code 753 = .ok (.aload_n 0, 1) := by decide +kernel
theorem dq_W_law_754 : decode code 754 = .ok (.iload_n 3, 1) := by decide +kernel
theorem dq_W_law_755 : decode code 755 = .ok (.iconst 2, 1) := by decide +kernel
theorem dq_W_law_756 : decode code 756 = .ok (.iadd, 1) := by decide +kernel
theorem dq_W_law_757 : decode code 757 = .ok (.iaload, 1) := by decide +kernel
theorem dq_W_law_758 : decode code 758 = .ok (.aload_n 0, 1) := by decide +kernel
theorem dq_W_law_759 : decode code 759 = .ok (.iload_n 3, 1) := by decide +kernel
theorem dq_W_law_760 : decode code 760 = .ok (.iconst 3, 1) := by decide +kernel
theorem dq_W_law_761 : decode code 761 = .ok (.iadd, 1) := by decide +kernel
